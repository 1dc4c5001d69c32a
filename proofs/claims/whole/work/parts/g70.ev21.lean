-- X12_comes
abbrev T12_comes : JT := (RX12, cX12_comes, 8, none, false)
set_option maxRecDepth 100000 in
set_option maxHeartbeats 4000000 in
theorem E12_comes_224 (l4 : Int) (h : JM) (res : JM) (H : F12_comes_224 l4 h = some res) : Ev j_W1 90 0 0 T12_comes 224 [(0, .inr (.inr (some (12, 0)))), (4, .inl (l4))] [] h none res := by
  unfold F12_comes_224 at H
  refine ev_aload_n (M := T12_comes) (pc := 224) 0 dX12_comes_224 (k := ?_)
  refine ev_iload (M := T12_comes) (pc := 225) 1 dX12_comes_225 (k := ?_)
  obtain ⟨h1, hq, H1⟩ := bd_e H
  clear H
  refine ev_callV (M := T12_comes) (pc := 227) (mc := 0) (ms := 0) (st := []) (C12_answered hq) md_X12_answered im_X12_answered se_X12_answered ml_X12_320 dX12_comes_227 _ (by decide) (K := ?_)
  refine ev_goto (M := T12_comes) (pc := 230) 330 dX12_comes_230 (k := ?_)
  cases H1
  exact ev_return (M := T12_comes) (pc := 330) dX12_comes_330
set_option maxRecDepth 100000 in
set_option maxHeartbeats 4000000 in
theorem E12_comes_148 (l1 : Int) (l3 : Int) (h : JM) (res : JM) (H : F12_comes_148 l1 l3 h = some res) : Ev j_W1 90 0 0 T12_comes 148 [(0, .inr (.inr (some (12, 0)))), (1, .inl (l1)), (3, .inl (l3))] [] h none res := by
  unfold F12_comes_148 at H
  refine ev_aload_n (M := T12_comes) (pc := 148) 0 dX12_comes_148 (k := ?_)
  refine ev_getR (M := T12_comes) (pc := 149) (t := 154) (x := some (154, 0)) fl_X12_158 dX12_comes_149 (hx := ry_12_54 _ _) (K := ?_)
  refine ev_iload_n (M := T12_comes) (pc := 152) 2 dX12_comes_152 (k := ?_)
  obtain ⟨⟨hi0, hi1⟩, H1⟩ := g_e H
  clear H
  refine ev_iaload (M := T12_comes) (pc := 153) (k := 154) hi0 hi1 dX12_comes_153 (hc := ac_154) (hlen := ln_154 _ _) (K := ?_)
  refine ev_ifne (M := T12_comes) (pc := 154) 330 dX12_comes_154 (kt := fun hc => ?_) (kf := fun hc => ?_)
  · replace H1 := if_ne hc H1
    cases H1
    exact ev_return (M := T12_comes) (pc := 330) dX12_comes_330
  · replace H1 := if_pe hc H1
    refine ev_aload_n (M := T12_comes) (pc := 157) 0 dX12_comes_157 (k := ?_)
    refine ev_iload_n (M := T12_comes) (pc := 158) 1 dX12_comes_158 (k := ?_)
    obtain ⟨h2, hq, H2⟩ := bd_e H1
    clear H1
    refine ev_callV (M := T12_comes) (pc := 159) (mc := 0) (ms := 0) (st := []) (C12_incoming hq) md_X12_incoming im_X12_incoming se_X12_incoming ml_X12_415 dX12_comes_159 _ (by decide) (K := ?_)
    refine ev_goto (M := T12_comes) (pc := 162) 330 dX12_comes_162 (k := ?_)
    cases H2
    exact ev_return (M := T12_comes) (pc := 330) dX12_comes_330
set_option maxRecDepth 100000 in
set_option maxHeartbeats 4000000 in
theorem E12_comes_44 (l1 : Int) (l3 : Int) (l4 : Int) (s0 : Int) (h : JM) (res : JM) (H : F12_comes_44 l1 l3 l4 s0 h = some res) : Ev j_W1 90 0 0 T12_comes 44 [(0, .inr (.inr (some (12, 0)))), (1, .inl (l1)), (3, .inl (l3)), (4, .inl (l4))] [.inl (s0)] h none res := by
  unfold F12_comes_44 at H
  refine ev_istore (M := T12_comes) (pc := 44) [(5, .inl (s0)), (0, .inr (.inr (some (12, 0)))), (1, .inl (l1)), (3, .inl (l3)), (4, .inl (l4))] dX12_comes_44 (k := ?_)
  refine ev_aload_n (M := T12_comes) (pc := 46) 1 dX12_comes_46 (k := ?_)
  refine ev_getR (M := T12_comes) (pc := 47) (t := 168) (x := some (168, 0)) fl_X12_197 dX12_comes_47 (hx := ry_12_68 _ _) (K := ?_)
  refine ev_iconst (M := T12_comes) (pc := 50) dX12_comes_50 (k := ?_)
  obtain ⟨⟨hi0, hi1⟩, H1⟩ := g_e H
  clear H
  refine ev_iaload (M := T12_comes) (pc := 51) (k := 168) hi0 hi1 dX12_comes_51 (hc := ac_168) (hlen := ln_168 _ _) (K := ?_)
  by_cases hs0 : h.1 168 0 1 = 1
  · replace H1 := if_pe hs0 H1
    refine ev_tableIn (M := T12_comes) (pc := 52) (off := 32) 84 dX12_comes_52 (by omega) (by omega) (by rw [hs0]; rfl) (k := ?_)
    refine ev_iload (M := T12_comes) (pc := 84) 0 dX12_comes_84 (k := ?_)
    refine ev_ifeq (M := T12_comes) (pc := 86) 148 dX12_comes_86 (kt := fun hc => ?_) (kf := fun hc => ?_)
    · replace H1 := if_pe hc H1
      refine ev_lv [1, 2, 3] [(0, .inr (.inr (some (12, 0)))), (1, .inl (l1)), (3, .inl (l3))] (k := ?_)
      exact E12_comes_148 l1 l3 h _ H1
    · replace H1 := if_ne hc H1
      refine ev_aload_n (M := T12_comes) (pc := 89) 1 dX12_comes_89 (k := ?_)
      refine ev_getR (M := T12_comes) (pc := 90) (t := 133) (x := some (133, 0)) fl_X12_95 dX12_comes_90 (hx := ry_12_33 _ _) (K := ?_)
      refine ev_iload (M := T12_comes) (pc := 93) 4 dX12_comes_93 (k := ?_)
      obtain ⟨⟨hi0, hi1⟩, H2⟩ := g_e H1
      clear H1
      refine ev_iaload (M := T12_comes) (pc := 95) (k := 133) hi0 hi1 dX12_comes_95 (hc := ac_133) (hlen := ln_133 _ _) (K := ?_)
      refine ev_iconst (M := T12_comes) (pc := 96) dX12_comes_96 (k := ?_)
      refine ev_icmpne (M := T12_comes) (pc := 97) 148 dX12_comes_97 (kt := fun hc => ?_) (kf := fun hc => ?_)
      · replace H2 := if_ne hc H2
        refine ev_lv [1, 2, 3] [(0, .inr (.inr (some (12, 0)))), (1, .inl (l1)), (3, .inl (l3))] (k := ?_)
        exact E12_comes_148 l1 l3 h _ H2
      · replace H2 := if_pe hc H2
        refine ev_aload_n (M := T12_comes) (pc := 100) 1 dX12_comes_100 (k := ?_)
        refine ev_getR (M := T12_comes) (pc := 101) (t := 168) (x := some (168, 0)) fl_X12_197 dX12_comes_101 (hx := ry_12_68 _ _) (K := ?_)
        refine ev_iconst (M := T12_comes) (pc := 104) dX12_comes_104 (k := ?_)
        obtain ⟨⟨hi0, hi1⟩, H3⟩ := g_e H2
        clear H2
        refine ev_iaload (M := T12_comes) (pc := 105) (k := 168) hi0 hi1 dX12_comes_105 (hc := ac_168) (hlen := ln_168 _ _) (K := ?_)
        refine ev_iconst (M := T12_comes) (pc := 106) dX12_comes_106 (k := ?_)
        refine ev_irem (M := T12_comes) (pc := 107) dX12_comes_107 (by decide) (k := ?_)
        refine ev_iload_n (M := T12_comes) (pc := 108) 2 dX12_comes_108 (k := ?_)
        refine ev_icmpeq (M := T12_comes) (pc := 109) 148 dX12_comes_109 (kt := fun hc => ?_) (kf := fun hc => ?_)
        · replace H3 := if_pe hc H3
          refine ev_lv [1, 2, 3] [(0, .inr (.inr (some (12, 0)))), (1, .inl (l1)), (3, .inl (l3))] (k := ?_)
          exact E12_comes_148 l1 l3 h _ H3
        · replace H3 := if_ne hc H3
          refine ev_aload_n (M := T12_comes) (pc := 112) 1 dX12_comes_112 (k := ?_)
          refine ev_getR (M := T12_comes) (pc := 113) (t := 154) (x := some (154, 0)) fl_X12_158 dX12_comes_113 (hx := ry_12_54 _ _) (K := ?_)
          refine ev_iload_n (M := T12_comes) (pc := 116) 3 dX12_comes_116 (k := ?_)
          refine ev_iconst (M := T12_comes) (pc := 117) dX12_comes_117 (k := ?_)
          obtain ⟨⟨hi0, hi1⟩, H4⟩ := g_e H3
          clear H3
          obtain ⟨h3, eh3, H5⟩ := lt_e H4
          clear H4
          refine ev_iastore (M := T12_comes) (pc := 118) (k := 154) j_ok1 hi0 hi1 eh3 dX12_comes_118 (hc := ac_154) (hlen := ln_154 _ _) (K := ?_)
          refine ev_aload_n (M := T12_comes) (pc := 119) 1 dX12_comes_119 (k := ?_)
          refine ev_getR (M := T12_comes) (pc := 120) (t := 155) (x := some (155, 0)) fl_X12_161 dX12_comes_120 (hx := ry_12_55 _ _) (K := ?_)
          refine ev_iload_n (M := T12_comes) (pc := 123) 3 dX12_comes_123 (k := ?_)
          refine ev_iconst (M := T12_comes) (pc := 124) dX12_comes_124 (k := ?_)
          obtain ⟨⟨hi0, hi1⟩, H6⟩ := g_e H5
          clear H5
          obtain ⟨h4, eh4, H7⟩ := lt_e H6
          clear H6
          refine ev_iastore (M := T12_comes) (pc := 125) (k := 155) j_ok1 hi0 hi1 eh4 dX12_comes_125 (hc := ac_155) (hlen := ln_155 _ _) (K := ?_)
          refine ev_aload_n (M := T12_comes) (pc := 126) 1 dX12_comes_126 (k := ?_)
          refine ev_getR (M := T12_comes) (pc := 127) (t := 137) (x := some (137, 0)) fl_X12_107 dX12_comes_127 (hx := ry_12_37 _ _) (K := ?_)
          refine ev_iload (M := T12_comes) (pc := 130) 4 dX12_comes_130 (k := ?_)
          refine ev_iconst (M := T12_comes) (pc := 132) dX12_comes_132 (k := ?_)
          obtain ⟨⟨hi0, hi1⟩, H8⟩ := g_e H7
          clear H7
          obtain ⟨h5, eh5, H9⟩ := lt_e H8
          clear H8
          refine ev_iastore (M := T12_comes) (pc := 133) (k := 137) j_ok1 hi0 hi1 eh5 dX12_comes_133 (hc := ac_137) (hlen := ln_137 _ _) (K := ?_)
          refine ev_aload_n (M := T12_comes) (pc := 134) 1 dX12_comes_134 (k := ?_)
          refine ev_iload (M := T12_comes) (pc := 135) 4 dX12_comes_135 (k := ?_)
          obtain ⟨h6, hq, H10⟩ := bd_e H9
          clear H9
          refine ev_callV (M := T12_comes) (pc := 137) (mc := 0) (ms := 0) (st := []) (C12_toFar hq) md_X12_toFar im_X12_toFar se_X12_toFar ml_X12_340 dX12_comes_137 _ (by decide) (K := ?_)
          refine ev_aload_n (M := T12_comes) (pc := 140) 1 dX12_comes_140 (k := ?_)
          refine ev_iload_n (M := T12_comes) (pc := 141) 2 dX12_comes_141 (k := ?_)
          obtain ⟨h7, hq, H11⟩ := bd_e H10
          clear H10
          refine ev_callV (M := T12_comes) (pc := 142) (mc := 0) (ms := 0) (st := []) (C12_incoming hq) md_X12_incoming im_X12_incoming se_X12_incoming ml_X12_415 dX12_comes_142 _ (by decide) (K := ?_)
          refine ev_goto (M := T12_comes) (pc := 145) 330 dX12_comes_145 (k := ?_)
          cases H11
          exact ev_return (M := T12_comes) (pc := 330) dX12_comes_330
  · replace H1 := if_ne hs0 H1
    by_cases hs1 : h.1 168 0 1 = 2
    · replace H1 := if_pe hs1 H1
      refine ev_tableIn (M := T12_comes) (pc := 52) (off := 113) 165 dX12_comes_52 (by omega) (by omega) (by rw [hs1]; rfl) (k := ?_)
      refine ev_iload (M := T12_comes) (pc := 165) 0 dX12_comes_165 (k := ?_)
      refine ev_ifeq (M := T12_comes) (pc := 167) 330 dX12_comes_167 (kt := fun hc => ?_) (kf := fun hc => ?_)
      · replace H1 := if_pe hc H1
        cases H1
        exact ev_return (M := T12_comes) (pc := 330) dX12_comes_330
      · replace H1 := if_ne hc H1
        refine ev_aload_n (M := T12_comes) (pc := 170) 1 dX12_comes_170 (k := ?_)
        refine ev_getR (M := T12_comes) (pc := 171) (t := 133) (x := some (133, 0)) fl_X12_95 dX12_comes_171 (hx := ry_12_33 _ _) (K := ?_)
        refine ev_iload (M := T12_comes) (pc := 174) 4 dX12_comes_174 (k := ?_)
        obtain ⟨⟨hi0, hi1⟩, H2⟩ := g_e H1
        clear H1
        refine ev_iaload (M := T12_comes) (pc := 176) (k := 133) hi0 hi1 dX12_comes_176 (hc := ac_133) (hlen := ln_133 _ _) (K := ?_)
        refine ev_iconst (M := T12_comes) (pc := 177) dX12_comes_177 (k := ?_)
        refine ev_icmpne (M := T12_comes) (pc := 178) 330 dX12_comes_178 (kt := fun hc => ?_) (kf := fun hc => ?_)
        · replace H2 := if_ne hc H2
          cases H2
          exact ev_return (M := T12_comes) (pc := 330) dX12_comes_330
        · replace H2 := if_pe hc H2
          refine ev_aload_n (M := T12_comes) (pc := 181) 1 dX12_comes_181 (k := ?_)
          refine ev_iload (M := T12_comes) (pc := 182) 4 dX12_comes_182 (k := ?_)
          refine ev_iconst (M := T12_comes) (pc := 184) dX12_comes_184 (k := ?_)
          obtain ⟨h8, hq, H3⟩ := bd_e H2
          clear H2
          refine ev_callV (M := T12_comes) (pc := 185) (mc := 0) (ms := 0) (st := []) (C12_becomes hq) md_X12_becomes im_X12_becomes se_X12_becomes ml_X12_361 dX12_comes_185 _ (by decide) (K := ?_)
          refine ev_aload_n (M := T12_comes) (pc := 188) 1 dX12_comes_188 (k := ?_)
          refine ev_iload (M := T12_comes) (pc := 189) 4 dX12_comes_189 (k := ?_)
          obtain ⟨h9, hq, H4⟩ := bd_e H3
          clear H3
          refine ev_callV (M := T12_comes) (pc := 191) (mc := 0) (ms := 0) (st := []) (C12_acm hq) md_X12_acm im_X12_acm se_X12_acm ml_X12_364 dX12_comes_191 _ (by decide) (K := ?_)
          refine ev_goto (M := T12_comes) (pc := 194) 330 dX12_comes_194 (k := ?_)
          cases H4
          exact ev_return (M := T12_comes) (pc := 330) dX12_comes_330
    · replace H1 := if_ne hs1 H1
      by_cases hs2 : h.1 168 0 1 = 3
      · replace H1 := if_pe hs2 H1
        refine ev_tableIn (M := T12_comes) (pc := 52) (off := 145) 197 dX12_comes_52 (by omega) (by omega) (by rw [hs2]; rfl) (k := ?_)
        refine ev_iload (M := T12_comes) (pc := 197) 0 dX12_comes_197 (k := ?_)
        refine ev_ifeq (M := T12_comes) (pc := 199) 330 dX12_comes_199 (kt := fun hc => ?_) (kf := fun hc => ?_)
        · replace H1 := if_pe hc H1
          cases H1
          exact ev_return (M := T12_comes) (pc := 330) dX12_comes_330
        · replace H1 := if_ne hc H1
          refine ev_aload_n (M := T12_comes) (pc := 202) 1 dX12_comes_202 (k := ?_)
          refine ev_getR (M := T12_comes) (pc := 203) (t := 133) (x := some (133, 0)) fl_X12_95 dX12_comes_203 (hx := ry_12_33 _ _) (K := ?_)
          refine ev_iload (M := T12_comes) (pc := 206) 4 dX12_comes_206 (k := ?_)
          obtain ⟨⟨hi0, hi1⟩, H2⟩ := g_e H1
          clear H1
          refine ev_iaload (M := T12_comes) (pc := 208) (k := 133) hi0 hi1 dX12_comes_208 (hc := ac_133) (hlen := ln_133 _ _) (K := ?_)
          refine ev_iconst (M := T12_comes) (pc := 209) dX12_comes_209 (k := ?_)
          refine ev_icmpeq (M := T12_comes) (pc := 210) 224 dX12_comes_210 (kt := fun hc => ?_) (kf := fun hc => ?_)
          · replace H2 := if_pe hc H2
            refine ev_lv [1, 4] [(0, .inr (.inr (some (12, 0)))), (4, .inl (l4))] (k := ?_)
            exact E12_comes_224 l4 h _ H2
          · replace H2 := if_ne hc H2
            refine ev_aload_n (M := T12_comes) (pc := 213) 1 dX12_comes_213 (k := ?_)
            refine ev_getR (M := T12_comes) (pc := 214) (t := 133) (x := some (133, 0)) fl_X12_95 dX12_comes_214 (hx := ry_12_33 _ _) (K := ?_)
            refine ev_iload (M := T12_comes) (pc := 217) 4 dX12_comes_217 (k := ?_)
            obtain ⟨⟨hi0, hi1⟩, H3⟩ := g_e H2
            clear H2
            refine ev_iaload (M := T12_comes) (pc := 219) (k := 133) hi0 hi1 dX12_comes_219 (hc := ac_133) (hlen := ln_133 _ _) (K := ?_)
            refine ev_iconst (M := T12_comes) (pc := 220) dX12_comes_220 (k := ?_)
            refine ev_icmpne (M := T12_comes) (pc := 221) 330 dX12_comes_221 (kt := fun hc => ?_) (kf := fun hc => ?_)
            · replace H3 := if_ne hc H3
              cases H3
              exact ev_return (M := T12_comes) (pc := 330) dX12_comes_330
            · replace H3 := if_pe hc H3
              refine ev_lv [1, 4] [(0, .inr (.inr (some (12, 0)))), (4, .inl (l4))] (k := ?_)
              exact E12_comes_224 l4 h _ H3
      · replace H1 := if_ne hs2 H1
        by_cases hs3 : h.1 168 0 1 = 4
        · replace H1 := if_pe hs3 H1
          refine ev_tableIn (M := T12_comes) (pc := 52) (off := 181) 233 dX12_comes_52 (by omega) (by omega) (by rw [hs3]; rfl) (k := ?_)
          refine ev_aload_n (M := T12_comes) (pc := 233) 1 dX12_comes_233 (k := ?_)
          refine ev_getR (M := T12_comes) (pc := 234) (t := 154) (x := some (154, 0)) fl_X12_158 dX12_comes_234 (hx := ry_12_54 _ _) (K := ?_)
          refine ev_iload_n (M := T12_comes) (pc := 237) 3 dX12_comes_237 (k := ?_)
          obtain ⟨⟨hi0, hi1⟩, H2⟩ := g_e H1
          clear H1
          refine ev_iaload (M := T12_comes) (pc := 238) (k := 154) hi0 hi1 dX12_comes_238 (hc := ac_154) (hlen := ln_154 _ _) (K := ?_)
          refine ev_ifeq (M := T12_comes) (pc := 239) 330 dX12_comes_239 (kt := fun hc => ?_) (kf := fun hc => ?_)
          · replace H2 := if_pe hc H2
            cases H2
            exact ev_return (M := T12_comes) (pc := 330) dX12_comes_330
          · replace H2 := if_ne hc H2
            refine ev_aload_n (M := T12_comes) (pc := 242) 1 dX12_comes_242 (k := ?_)
            refine ev_getR (M := T12_comes) (pc := 243) (t := 168) (x := some (168, 0)) fl_X12_197 dX12_comes_243 (hx := ry_12_68 _ _) (K := ?_)
            refine ev_iconst (M := T12_comes) (pc := 246) dX12_comes_246 (k := ?_)
            obtain ⟨⟨hi0, hi1⟩, H3⟩ := g_e H2
            clear H2
            refine ev_iaload (M := T12_comes) (pc := 247) (k := 168) hi0 hi1 dX12_comes_247 (hc := ac_168) (hlen := ln_168 _ _) (K := ?_)
            obtain ⟨x10, ex10, H4⟩ := lt_e H3
            clear H3
            refine ev_topI ex10 ?_
            refine ev_istore (M := T12_comes) (pc := 248) [(6, .inl (x10)), (5, .inl (s0)), (0, .inr (.inr (some (12, 0)))), (1, .inl (l1)), (3, .inl (l3)), (4, .inl (l4))] dX12_comes_248 (k := ?_)
            refine ev_aload_n (M := T12_comes) (pc := 250) 2 dX12_comes_250 (k := ?_)
            refine ev_getR (M := T12_comes) (pc := 251) (t := 168) (x := some (168, 0)) fl_X12_197 dX12_comes_251 (hx := ry_12_68 _ _) (K := ?_)
            refine ev_iconst (M := T12_comes) (pc := 254) dX12_comes_254 (k := ?_)
            obtain ⟨⟨hi0, hi1⟩, H5⟩ := g_e H4
            clear H4
            refine ev_iaload (M := T12_comes) (pc := 255) (k := 168) hi0 hi1 dX12_comes_255 (hc := ac_168) (hlen := ln_168 _ _) (K := ?_)
            obtain ⟨x11, ex11, H6⟩ := lt_e H5
            clear H5
            refine ev_topI ex11 ?_
            refine ev_istore (M := T12_comes) (pc := 256) [(7, .inl (x11)), (6, .inl (x10)), (5, .inl (s0)), (0, .inr (.inr (some (12, 0)))), (1, .inl (l1)), (3, .inl (l3)), (4, .inl (l4))] dX12_comes_256 (k := ?_)
            refine ev_aload_n (M := T12_comes) (pc := 258) 3 dX12_comes_258 (k := ?_)
            refine ev_iload (M := T12_comes) (pc := 259) 0 dX12_comes_259 (k := ?_)
            refine ev_iconst (M := T12_comes) (pc := 261) dX12_comes_261 (k := ?_)
            obtain ⟨h12, hq, H7⟩ := bd_e H6
            clear H6
            refine ev_callV (M := T12_comes) (pc := 262) (mc := 0) (ms := 0) (st := []) (C12_begins hq) md_X12_begins im_X12_begins se_X12_begins ml_X12_352 dX12_comes_262 _ (by decide) (K := ?_)
            refine ev_aload_n (M := T12_comes) (pc := 265) 3 dX12_comes_265 (k := ?_)
            refine ev_iload_n (M := T12_comes) (pc := 266) 4 dX12_comes_266 (k := ?_)
            obtain ⟨h13, hq, H8⟩ := bd_e H7
            clear H7
            refine ev_callV (M := T12_comes) (pc := 267) (mc := 0) (ms := 0) (st := []) (C12_goes hq) md_X12_goes im_X12_goes se_X12_goes ml_X12_358 dX12_comes_267 _ (by decide) (K := ?_)
            refine ev_aload_n (M := T12_comes) (pc := 270) 3 dX12_comes_270 (k := ?_)
            refine ev_getR (M := T12_comes) (pc := 271) (t := 154) (x := some (154, 0)) fl_X12_158 dX12_comes_271 (hx := ry_12_54 _ _) (K := ?_)
            refine ev_iload_n (M := T12_comes) (pc := 274) 5 dX12_comes_274 (k := ?_)
            obtain ⟨⟨hi0, hi1⟩, H9⟩ := g_e H8
            clear H8
            refine ev_iaload (M := T12_comes) (pc := 275) (k := 154) hi0 hi1 dX12_comes_275 (hc := ac_154) (hlen := ln_154 _ _) (K := ?_)
            refine ev_iconst (M := T12_comes) (pc := 276) dX12_comes_276 (k := ?_)
            refine ev_icmpne (M := T12_comes) (pc := 277) 283 dX12_comes_277 (kt := fun hc => ?_) (kf := fun hc => ?_)
            · replace H9 := if_ne hc H9
              refine ev_aload_n (M := T12_comes) (pc := 283) 3 dX12_comes_283 (k := ?_)
              refine ev_getR (M := T12_comes) (pc := 284) (t := 154) (x := some (154, 0)) fl_X12_158 dX12_comes_284 (hx := ry_12_54 _ _) (K := ?_)
              refine ev_iload_n (M := T12_comes) (pc := 287) 5 dX12_comes_287 (k := ?_)
              refine ev_iconst (M := T12_comes) (pc := 288) dX12_comes_288 (k := ?_)
              obtain ⟨⟨hi0, hi1⟩, H10⟩ := g_e H9
              clear H9
              obtain ⟨h14, eh14, H11⟩ := lt_e H10
              clear H10
              refine ev_iastore (M := T12_comes) (pc := 289) (k := 154) j_ok1 hi0 hi1 eh14 dX12_comes_289 (hc := ac_154) (hlen := ln_154 _ _) (K := ?_)
              refine ev_aload_n (M := T12_comes) (pc := 290) 3 dX12_comes_290 (k := ?_)
              refine ev_getR (M := T12_comes) (pc := 291) (t := 155) (x := some (155, 0)) fl_X12_161 dX12_comes_291 (hx := ry_12_55 _ _) (K := ?_)
              refine ev_iload_n (M := T12_comes) (pc := 294) 5 dX12_comes_294 (k := ?_)
              refine ev_iconst (M := T12_comes) (pc := 295) dX12_comes_295 (k := ?_)
              obtain ⟨⟨hi0, hi1⟩, H12⟩ := g_e H11
              clear H11
              obtain ⟨h15, eh15, H13⟩ := lt_e H12
              clear H12
              refine ev_iastore (M := T12_comes) (pc := 296) (k := 155) j_ok1 hi0 hi1 eh15 dX12_comes_296 (hc := ac_155) (hlen := ln_155 _ _) (K := ?_)
              refine ev_aload_n (M := T12_comes) (pc := 297) 3 dX12_comes_297 (k := ?_)
              refine ev_iload (M := T12_comes) (pc := 298) 6 dX12_comes_298 (k := ?_)
              refine ev_iload (M := T12_comes) (pc := 300) 1 dX12_comes_300 (k := ?_)
              refine ev_bipush (M := T12_comes) (pc := 302) dX12_comes_302 (k := ?_)
              refine ev_iload (M := T12_comes) (pc := 304) 0 dX12_comes_304 (k := ?_)
              refine ev_iadd (M := T12_comes) (pc := 306) dX12_comes_306 (k := ?_)
              obtain ⟨h16, hq, H14⟩ := bd_e H13
              clear H13
              refine ev_callV (M := T12_comes) (pc := 307) (mc := 0) (ms := 0) (st := []) (C12_over hq) md_X12_over im_X12_over se_X12_over ml_X12_323 dX12_comes_307 _ (by decide) (K := ?_)
              refine ev_goto (M := T12_comes) (pc := 310) 330 dX12_comes_310 (k := ?_)
              cases H14
              exact ev_return (M := T12_comes) (pc := 330) dX12_comes_330
            · replace H9 := if_pe hc H9
              refine ev_goto (M := T12_comes) (pc := 280) 330 dX12_comes_280 (k := ?_)
              cases H9
              exact ev_return (M := T12_comes) (pc := 330) dX12_comes_330
        · replace H1 := if_ne hs3 H1
          refine ev_tableOut (M := T12_comes) (pc := 52) 313 dX12_comes_52 (by omega) (k := ?_)
          refine ev_aload_n (M := T12_comes) (pc := 313) 1 dX12_comes_313 (k := ?_)
          refine ev_getR (M := T12_comes) (pc := 314) (t := 154) (x := some (154, 0)) fl_X12_158 dX12_comes_314 (hx := ry_12_54 _ _) (K := ?_)
          refine ev_iload_n (M := T12_comes) (pc := 317) 3 dX12_comes_317 (k := ?_)
          obtain ⟨⟨hi0, hi1⟩, H2⟩ := g_e H1
          clear H1
          refine ev_iaload (M := T12_comes) (pc := 318) (k := 154) hi0 hi1 dX12_comes_318 (hc := ac_154) (hlen := ln_154 _ _) (K := ?_)
          refine ev_iconst (M := T12_comes) (pc := 319) dX12_comes_319 (k := ?_)
          refine ev_icmpne (M := T12_comes) (pc := 320) 330 dX12_comes_320 (kt := fun hc => ?_) (kf := fun hc => ?_)
          · replace H2 := if_ne hc H2
            cases H2
            exact ev_return (M := T12_comes) (pc := 330) dX12_comes_330
          · replace H2 := if_pe hc H2
            refine ev_aload_n (M := T12_comes) (pc := 323) 1 dX12_comes_323 (k := ?_)
            refine ev_getR (M := T12_comes) (pc := 324) (t := 154) (x := some (154, 0)) fl_X12_158 dX12_comes_324 (hx := ry_12_54 _ _) (K := ?_)
            refine ev_iload_n (M := T12_comes) (pc := 327) 3 dX12_comes_327 (k := ?_)
            refine ev_iconst (M := T12_comes) (pc := 328) dX12_comes_328 (k := ?_)
            obtain ⟨⟨hi0, hi1⟩, H3⟩ := g_e H2
            clear H2
            obtain ⟨h17, eh17, H4⟩ := lt_e H3
            clear H3
            refine ev_iastore (M := T12_comes) (pc := 329) (k := 154) j_ok1 hi0 hi1 eh17 dX12_comes_329 (hc := ac_154) (hlen := ln_154 _ _) (K := ?_)
            cases H4
            exact ev_return (M := T12_comes) (pc := 330) dX12_comes_330
set_option maxRecDepth 100000 in
set_option maxHeartbeats 4000000 in
theorem C12_comes {l1 : Int} {l2 : Int} {h : JM} {res : JM} (H : F12_comes l1 l2 h = some res) : Cn j_W1 90 0 0 yX12_comes cX12_comes 8 none [.inr (.inr (some (12, 0))), .inl (l1), .inl (l2)] h none res := by
  refine Cn.by (own := RX12) (b := false) [(0, .inr (.inr (some (12, 0)))), (1, .inl (l1)), (2, .inl (l2))] rfl (fun z => by cases z) (by decide +kernel) (K := ?_)
  unfold F12_comes at H
  refine ev_aload_n (M := T12_comes) (pc := 0) 0 dX12_comes_0 (k := ?_)
  refine ev_iload_n (M := T12_comes) (pc := 1) 2 dX12_comes_1 (k := ?_)
  obtain ⟨q18, hq, H1⟩ := bd_e H
  clear H
  refine ev_callV (M := T12_comes) (pc := 2) (mc := 0) (ms := 0) (st := []) (C12_isSo hq) md_X12_isSo im_X12_isSo se_X12_isSo ml_X12_412 dX12_comes_2 _ (by decide) (K := ?_)
  refine ev_ifne (M := T12_comes) (pc := 5) 9 dX12_comes_5 (kt := fun hc => ?_) (kf := fun hc => ?_)
  · replace H1 := if_ne hc H1
    refine ev_bipush (M := T12_comes) (pc := 9) dX12_comes_9 (k := ?_)
    refine ev_iload_n (M := T12_comes) (pc := 11) 1 dX12_comes_11 (k := ?_)
    refine ev_imul (M := T12_comes) (pc := 12) dX12_comes_12 (k := ?_)
    refine ev_aload_n (M := T12_comes) (pc := 13) 0 dX12_comes_13 (k := ?_)
    refine ev_getR (M := T12_comes) (pc := 14) (t := 168) (x := some (168, 0)) fl_X12_197 dX12_comes_14 (hx := ry_12_68 _ _) (K := ?_)
    refine ev_iconst (M := T12_comes) (pc := 17) dX12_comes_17 (k := ?_)
    obtain ⟨⟨hi0, hi1⟩, H2⟩ := g_e H1
    clear H1
    refine ev_iaload (M := T12_comes) (pc := 18) (k := 168) hi0 hi1 dX12_comes_18 (hc := ac_168) (hlen := ln_168 _ _) (K := ?_)
    refine ev_iadd (M := T12_comes) (pc := 19) dX12_comes_19 (k := ?_)
    obtain ⟨x19, ex19, H3⟩ := lt_e H2
    clear H2
    refine ev_topI ex19 ?_
    refine ev_istore_n (M := T12_comes) (pc := 20) [(3, .inl (x19)), (0, .inr (.inr (some (12, 0)))), (1, .inl (l1)), (2, .inl (l2))] dX12_comes_20 (k := ?_)
    refine ev_aload_n (M := T12_comes) (pc := 21) 1 dX12_comes_21 (k := ?_)
    refine ev_getR (M := T12_comes) (pc := 22) (t := 155) (x := some (155, 0)) fl_X12_161 dX12_comes_22 (hx := ry_12_55 _ _) (K := ?_)
    refine ev_iload_n (M := T12_comes) (pc := 25) 0 dX12_comes_25 (k := ?_)
    obtain ⟨⟨hi0, hi1⟩, H4⟩ := g_e H3
    clear H3
    refine ev_iaload (M := T12_comes) (pc := 26) (k := 155) hi0 hi1 dX12_comes_26 (hc := ac_155) (hlen := ln_155 _ _) (K := ?_)
    obtain ⟨x20, ex20, H5⟩ := lt_e H4
    clear H4
    refine ev_topI ex20 ?_
    refine ev_istore (M := T12_comes) (pc := 27) [(4, .inl (x20)), (3, .inl (x19)), (0, .inr (.inr (some (12, 0)))), (1, .inl (l1)), (2, .inl (l2))] dX12_comes_27 (k := ?_)
    refine ev_aload_n (M := T12_comes) (pc := 29) 2 dX12_comes_29 (k := ?_)
    refine ev_getR (M := T12_comes) (pc := 30) (t := 154) (x := some (154, 0)) fl_X12_158 dX12_comes_30 (hx := ry_12_54 _ _) (K := ?_)
    refine ev_iload_n (M := T12_comes) (pc := 33) 1 dX12_comes_33 (k := ?_)
    obtain ⟨⟨hi0, hi1⟩, H6⟩ := g_e H5
    clear H5
    refine ev_iaload (M := T12_comes) (pc := 34) (k := 154) hi0 hi1 dX12_comes_34 (hc := ac_154) (hlen := ln_154 _ _) (K := ?_)
    refine ev_iconst (M := T12_comes) (pc := 35) dX12_comes_35 (k := ?_)
    refine ev_icmpne (M := T12_comes) (pc := 36) 43 dX12_comes_36 (kt := fun hc => ?_) (kf := fun hc => ?_)
    · replace H6 := if_ne hc H6
      refine ev_iconst (M := T12_comes) (pc := 43) dX12_comes_43 (k := ?_)
      refine ev_lv [2, 3, 1, 0] [(0, .inr (.inr (some (12, 0)))), (1, .inl (l1)), (3, .inl (x19)), (4, .inl (x20))] (k := ?_)
      exact E12_comes_44 l1 x19 x20 0 q18.2 _ H6
    · replace H6 := if_pe hc H6
      refine ev_iconst (M := T12_comes) (pc := 39) dX12_comes_39 (k := ?_)
      refine ev_goto (M := T12_comes) (pc := 40) 44 dX12_comes_40 (k := ?_)
      refine ev_lv [2, 3, 1, 0] [(0, .inr (.inr (some (12, 0)))), (1, .inl (l1)), (3, .inl (x19)), (4, .inl (x20))] (k := ?_)
      exact E12_comes_44 l1 x19 x20 1 q18.2 _ H6
  · replace H1 := if_pe hc H1
    cases H1
    exact ev_return (M := T12_comes) (pc := 8) dX12_comes_8
-- X12_isLine
abbrev T12_isLine : JT := (RX12, cX12_isLine, 1, some .boolean, false)
set_option maxRecDepth 100000 in
set_option maxHeartbeats 4000000 in
theorem C12_isLine {l0 : Int} {h : JM} {res : (Int × JM)} (H : F12_isLine l0 h = some res) : Cn j_W1 2 0 0 yX12_isLine cX12_isLine 1 (some .boolean) [.inl (l0)] h (some (.inl res.1)) res.2 := by
  refine Cn.by (own := RX12) (b := false) [(0, .inl (l0))] rfl (fun z => by cases z) (by decide +kernel) (K := ?_)
  unfold F12_isLine at H
  refine ev_iload_n (M := T12_isLine) (pc := 0) 0 dX12_isLine_0 (k := ?_)
  refine ev_i2l (M := T12_isLine) (pc := 1) dX12_isLine_1 (k := ?_)
  refine ev_lconst (M := T12_isLine) (pc := 2) (v := 0) dX12_isLine_2 (k := ?_)
  refine ev_ldc2 (M := T12_isLine) (pc := 3) (n := 15) cl_X12_283 dX12_isLine_3 (hv := cw_X12_283) (k := ?_)
  obtain ⟨q1, hq, H1⟩ := bd_e H
  clear H
  refine ev_callS (M := T12_isLine) (pc := 6) (mc := 0) (ms := 0) (st := []) (C12_in hq) md_X12_in ss_X12_in ml_X12_268 dX12_isLine_6 _ (by decide) (K := ?_)
  obtain ⟨hz, H2⟩ := g_e H1
  clear H1
  cases H2
  exact ev_zreturn (M := T12_isLine) (pc := 9) hz dX12_isLine_9
-- X12_credit
abbrev T12_credit : JT := (RX12, cX12_credit, 4, some .int, false)
set_option maxRecDepth 100000 in
set_option maxHeartbeats 4000000 in
theorem E12_credit_21 (h : JM) (res : (Int × JM)) (H : F12_credit_21 h = some res) : Ev j_W1 3 0 0 T12_credit 21 [] [] h (some (.inl res.1)) res.2 := by
  unfold F12_credit_21 at H
  refine ev_bipush (M := T12_credit) (pc := 21) dX12_credit_21 (k := ?_)
  cases H
  exact ev_ireturn (M := T12_credit) (pc := 23) dX12_credit_23
set_option maxRecDepth 100000 in
set_option maxHeartbeats 4000000 in
theorem C12_credit {l1 : Int} {l2 : Int} {h : JM} {res : (Int × JM)} (H : F12_credit l1 l2 h = some res) : Cn j_W1 3 0 0 yX12_credit cX12_credit 4 (some .int) [.inr (.inr (some (12, 0))), .inl (l1), .inl (l2)] h (some (.inl res.1)) res.2 := by
  refine Cn.by (own := RX12) (b := false) [(0, .inr (.inr (some (12, 0)))), (1, .inl (l1)), (2, .inl (l2))] rfl (fun z => by cases z) (by decide +kernel) (K := ?_)
  unfold F12_credit at H
  refine ev_iload_n (M := T12_credit) (pc := 0) 1 dX12_credit_0 (k := ?_)
  obtain ⟨q1, hq, H1⟩ := bd_e H
  clear H
  refine ev_callS (M := T12_credit) (pc := 1) (mc := 0) (ms := 0) (st := []) (C12_isLine hq) md_X12_isLine ss_X12_isLine ml_X12_288 dX12_credit_1 _ (by decide) (K := ?_)
  refine ev_ifeq (M := T12_credit) (pc := 4) 21 dX12_credit_4 (kt := fun hc => ?_) (kf := fun hc => ?_)
  · replace H1 := if_pe hc H1
    refine ev_lv [] [] (k := ?_)
    exact E12_credit_21 q1.2 _ H1
  · replace H1 := if_ne hc H1
    refine ev_iload_n (M := T12_credit) (pc := 7) 2 dX12_credit_7 (k := ?_)
    refine ev_i2l (M := T12_credit) (pc := 8) dX12_credit_8 (k := ?_)
    refine ev_ldc2 (M := T12_credit) (pc := 9) (n := (-1)) cl_X12_292 dX12_credit_9 (hv := cw_X12_292) (k := ?_)
    refine ev_ldc2 (M := T12_credit) (pc := 12) (n := 1000000) cl_X12_294 dX12_credit_12 (hv := cw_X12_294) (k := ?_)
    obtain ⟨q2, hq, H2⟩ := bd_e H1
    clear H1
    refine ev_callS (M := T12_credit) (pc := 15) (mc := 0) (ms := 0) (st := []) (C12_in hq) md_X12_in ss_X12_in ml_X12_268 dX12_credit_15 _ (by decide) (K := ?_)
    refine ev_ifne (M := T12_credit) (pc := 18) 24 dX12_credit_18 (kt := fun hc => ?_) (kf := fun hc => ?_)
    · replace H2 := if_ne hc H2
      refine ev_aload_n (M := T12_credit) (pc := 24) 0 dX12_credit_24 (k := ?_)
      refine ev_getR (M := T12_credit) (pc := 25) (t := 126) (x := some (126, 0)) fl_X12_77 dX12_credit_25 (hx := ry_12_26 _ _) (K := ?_)
      refine ev_iload_n (M := T12_credit) (pc := 28) 1 dX12_credit_28 (k := ?_)
      obtain ⟨⟨hi0, hi1⟩, H3⟩ := g_e H2
      clear H2
      refine ev_iaload (M := T12_credit) (pc := 29) (k := 126) hi0 hi1 dX12_credit_29 (hc := ac_126) (hlen := ln_126 _ _) (K := ?_)
      obtain ⟨x3, ex3, H4⟩ := lt_e H3
      clear H3
      refine ev_topI ex3 ?_
      refine ev_istore_n (M := T12_credit) (pc := 30) [(3, .inl (x3)), (0, .inr (.inr (some (12, 0)))), (1, .inl (l1)), (2, .inl (l2))] dX12_credit_30 (k := ?_)
      refine ev_aload_n (M := T12_credit) (pc := 31) 1 dX12_credit_31 (k := ?_)
      refine ev_getR (M := T12_credit) (pc := 32) (t := 126) (x := some (126, 0)) fl_X12_77 dX12_credit_32 (hx := ry_12_26 _ _) (K := ?_)
      refine ev_iload_n (M := T12_credit) (pc := 35) 2 dX12_credit_35 (k := ?_)
      refine ev_iload_n (M := T12_credit) (pc := 36) 3 dX12_credit_36 (k := ?_)
      obtain ⟨⟨hi0, hi1⟩, H5⟩ := g_e H4
      clear H4
      obtain ⟨h4, eh4, H6⟩ := lt_e H5
      clear H5
      refine ev_iastore (M := T12_credit) (pc := 37) (k := 126) j_ok1 hi0 hi1 eh4 dX12_credit_37 (hc := ac_126) (hlen := ln_126 _ _) (K := ?_)
      refine ev_iload_n (M := T12_credit) (pc := 38) 0 dX12_credit_38 (k := ?_)
      cases H6
      exact ev_ireturn (M := T12_credit) (pc := 39) dX12_credit_39
    · replace H2 := if_pe hc H2
      refine ev_lv [] [] (k := ?_)
      exact E12_credit_21 q2.2 _ H2
-- X12_dial
abbrev T12_dial : JT := (RX12, cX12_dial, 3, some .int, false)
set_option maxRecDepth 100000 in
set_option maxHeartbeats 4000000 in
theorem E12_dial_28 (h : JM) (res : (Int × JM)) (H : F12_dial_28 h = some res) : Ev j_W1 3 0 0 T12_dial 28 [] [] h (some (.inl res.1)) res.2 := by
  unfold F12_dial_28 at H
  refine ev_bipush (M := T12_dial) (pc := 28) dX12_dial_28 (k := ?_)
  cases H
  exact ev_ireturn (M := T12_dial) (pc := 30) dX12_dial_30
set_option maxRecDepth 100000 in
set_option maxHeartbeats 4000000 in
theorem C12_dial {l1 : Int} {l2 : Int} {h : JM} {res : (Int × JM)} (H : F12_dial l1 l2 h = some res) : Cn j_W1 3 0 0 yX12_dial cX12_dial 3 (some .int) [.inr (.inr (some (12, 0))), .inl (l1), .inl (l2)] h (some (.inl res.1)) res.2 := by
  refine Cn.by (own := RX12) (b := false) [(0, .inr (.inr (some (12, 0)))), (1, .inl (l1)), (2, .inl (l2))] rfl (fun z => by cases z) (by decide +kernel) (K := ?_)
  unfold F12_dial at H
  refine ev_iload_n (M := T12_dial) (pc := 0) 1 dX12_dial_0 (k := ?_)
  obtain ⟨q1, hq, H1⟩ := bd_e H
  clear H
  refine ev_callS (M := T12_dial) (pc := 1) (mc := 0) (ms := 0) (st := []) (C12_isLine hq) md_X12_isLine ss_X12_isLine ml_X12_288 dX12_dial_1 _ (by decide) (K := ?_)
  refine ev_ifeq (M := T12_dial) (pc := 4) 28 dX12_dial_4 (kt := fun hc => ?_) (kf := fun hc => ?_)
  · replace H1 := if_pe hc H1
    refine ev_lv [] [] (k := ?_)
    exact E12_dial_28 q1.2 _ H1
  · replace H1 := if_ne hc H1
    refine ev_iload_n (M := T12_dial) (pc := 7) 2 dX12_dial_7 (k := ?_)
    refine ev_i2l (M := T12_dial) (pc := 8) dX12_dial_8 (k := ?_)
    refine ev_lconst (M := T12_dial) (pc := 9) (v := 0) dX12_dial_9 (k := ?_)
    refine ev_ldc2 (M := T12_dial) (pc := 10) (n := 11) cl_X12_266 dX12_dial_10 (hv := cw_X12_266) (k := ?_)
    obtain ⟨q2, hq, H2⟩ := bd_e H1
    clear H1
    refine ev_callS (M := T12_dial) (pc := 13) (mc := 0) (ms := 0) (st := []) (C12_in hq) md_X12_in ss_X12_in ml_X12_268 dX12_dial_13 _ (by decide) (K := ?_)
    refine ev_ifeq (M := T12_dial) (pc := 16) 28 dX12_dial_16 (kt := fun hc => ?_) (kf := fun hc => ?_)
    · replace H2 := if_pe hc H2
      refine ev_lv [] [] (k := ?_)
      exact E12_dial_28 q2.2 _ H2
    · replace H2 := if_ne hc H2
      refine ev_aload_n (M := T12_dial) (pc := 19) 0 dX12_dial_19 (k := ?_)
      refine ev_getR (M := T12_dial) (pc := 20) (t := 112) (x := some (112, 0)) fl_X12_34 dX12_dial_20 (hx := ry_12_12 _ _) (K := ?_)
      refine ev_iload_n (M := T12_dial) (pc := 23) 1 dX12_dial_23 (k := ?_)
      obtain ⟨⟨hi0, hi1⟩, H3⟩ := g_e H2
      clear H2
      refine ev_zaload (M := T12_dial) (pc := 24) (k := 112) hi0 hi1 dX12_dial_24 (hc := ac_112) (hlen := ln_112 _ _) (K := ?_)
      refine ev_ifne (M := T12_dial) (pc := 25) 31 dX12_dial_25 (kt := fun hc => ?_) (kf := fun hc => ?_)
      · replace H3 := if_ne hc H3
        refine ev_aload_n (M := T12_dial) (pc := 31) 0 dX12_dial_31 (k := ?_)
        refine ev_getR (M := T12_dial) (pc := 32) (t := 118) (x := some (118, 0)) fl_X12_53 dX12_dial_32 (hx := ry_12_18 _ _) (K := ?_)
        refine ev_iload_n (M := T12_dial) (pc := 35) 1 dX12_dial_35 (k := ?_)
        obtain ⟨⟨hi0, hi1⟩, H4⟩ := g_e H3
        clear H3
        refine ev_iaload (M := T12_dial) (pc := 36) (k := 118) hi0 hi1 dX12_dial_36 (hc := ac_118) (hlen := ln_118 _ _) (K := ?_)
        refine ev_bipush (M := T12_dial) (pc := 37) dX12_dial_37 (k := ?_)
        refine ev_icmpne (M := T12_dial) (pc := 39) 45 dX12_dial_39 (kt := fun hc => ?_) (kf := fun hc => ?_)
        · replace H4 := if_ne hc H4
          refine ev_aload_n (M := T12_dial) (pc := 45) 0 dX12_dial_45 (k := ?_)
          refine ev_getR (M := T12_dial) (pc := 46) (t := 117) (x := some (117, 0)) fl_X12_50 dX12_dial_46 (hx := ry_12_17 _ _) (K := ?_)
          refine ev_bipush (M := T12_dial) (pc := 49) dX12_dial_49 (k := ?_)
          refine ev_iload_n (M := T12_dial) (pc := 51) 1 dX12_dial_51 (k := ?_)
          refine ev_imul (M := T12_dial) (pc := 52) dX12_dial_52 (k := ?_)
          refine ev_aload_n (M := T12_dial) (pc := 53) 0 dX12_dial_53 (k := ?_)
          refine ev_getR (M := T12_dial) (pc := 54) (t := 118) (x := some (118, 0)) fl_X12_53 dX12_dial_54 (hx := ry_12_18 _ _) (K := ?_)
          refine ev_iload_n (M := T12_dial) (pc := 57) 1 dX12_dial_57 (k := ?_)
          refine ev_dup2 (M := T12_dial) (pc := 58) dX12_dial_58 (k := ?_)
          obtain ⟨⟨hi0, hi1⟩, H5⟩ := g_e H4
          clear H4
          refine ev_iaload (M := T12_dial) (pc := 59) (k := 118) hi0 hi1 dX12_dial_59 (hc := ac_118) (hlen := ln_118 _ _) (K := ?_)
          refine ev_dup_x2 (M := T12_dial) (pc := 60) dX12_dial_60 (k := ?_)
          refine ev_iconst (M := T12_dial) (pc := 61) dX12_dial_61 (k := ?_)
          refine ev_iadd (M := T12_dial) (pc := 62) dX12_dial_62 (k := ?_)
          obtain ⟨⟨hi0, hi1⟩, H6⟩ := g_e H5
          clear H5
          obtain ⟨h3, eh3, H7⟩ := lt_e H6
          clear H6
          refine ev_iastore (M := T12_dial) (pc := 63) (k := 118) j_ok1 hi0 hi1 eh3 dX12_dial_63 (hc := ac_118) (hlen := ln_118 _ _) (K := ?_)
          refine ev_iadd (M := T12_dial) (pc := 64) dX12_dial_64 (k := ?_)
          refine ev_iload_n (M := T12_dial) (pc := 65) 2 dX12_dial_65 (k := ?_)
          obtain ⟨⟨hi0, hi1⟩, H8⟩ := g_e H7
          clear H7
          obtain ⟨h4, eh4, H9⟩ := lt_e H8
          clear H8
          refine ev_iastore (M := T12_dial) (pc := 66) (k := 117) j_ok1 hi0 hi1 eh4 dX12_dial_66 (hc := ac_117) (hlen := ln_117 _ _) (K := ?_)
          refine ev_aload_n (M := T12_dial) (pc := 67) 0 dX12_dial_67 (k := ?_)
          refine ev_getR (M := T12_dial) (pc := 68) (t := 118) (x := some (118, 0)) fl_X12_53 dX12_dial_68 (hx := ry_12_18 _ _) (K := ?_)
          refine ev_iload_n (M := T12_dial) (pc := 71) 1 dX12_dial_71 (k := ?_)
          obtain ⟨⟨hi0, hi1⟩, H10⟩ := g_e H9
          clear H9
          refine ev_iaload (M := T12_dial) (pc := 72) (k := 118) hi0 hi1 dX12_dial_72 (hc := ac_118) (hlen := ln_118 _ _) (K := ?_)
          cases H10
          exact ev_ireturn (M := T12_dial) (pc := 73) dX12_dial_73
        · replace H4 := if_pe hc H4
          refine ev_bipush (M := T12_dial) (pc := 42) dX12_dial_42 (k := ?_)
          cases H4
          exact ev_ireturn (M := T12_dial) (pc := 44) dX12_dial_44
      · replace H3 := if_pe hc H3
        refine ev_lv [] [] (k := ?_)
        exact E12_dial_28 q2.2 _ H3
-- X12_feature
abbrev T12_feature : JT := (RX12, cX12_feature, 5, some .int, false)
set_option maxRecDepth 100000 in
set_option maxHeartbeats 4000000 in
theorem E12_feature_19 (h : JM) (res : (Int × JM)) (H : F12_feature_19 h = some res) : Ev j_W1 3 0 0 T12_feature 19 [] [] h (some (.inl res.1)) res.2 := by
  unfold F12_feature_19 at H
  refine ev_bipush (M := T12_feature) (pc := 19) dX12_feature_19 (k := ?_)
  cases H
  exact ev_ireturn (M := T12_feature) (pc := 21) dX12_feature_21
set_option maxRecDepth 100000 in
set_option maxHeartbeats 4000000 in
theorem C12_feature {l1 : Int} {l2 : Int} {l3 : Int} {h : JM} {res : (Int × JM)} (H : F12_feature l1 l2 l3 h = some res) : Cn j_W1 3 0 0 yX12_feature cX12_feature 5 (some .int) [.inr (.inr (some (12, 0))), .inl (l1), .inl (l2), .inl (l3)] h (some (.inl res.1)) res.2 := by
  refine Cn.by (own := RX12) (b := false) [(0, .inr (.inr (some (12, 0)))), (1, .inl (l1)), (2, .inl (l2)), (3, .inl (l3))] rfl (fun z => by cases z) (by decide +kernel) (K := ?_)
  unfold F12_feature at H
  refine ev_iload_n (M := T12_feature) (pc := 0) 1 dX12_feature_0 (k := ?_)
  obtain ⟨q1, hq, H1⟩ := bd_e H
  clear H
  refine ev_callS (M := T12_feature) (pc := 1) (mc := 0) (ms := 0) (st := []) (C12_isLine hq) md_X12_isLine ss_X12_isLine ml_X12_288 dX12_feature_1 _ (by decide) (K := ?_)
  refine ev_ifeq (M := T12_feature) (pc := 4) 19 dX12_feature_4 (kt := fun hc => ?_) (kf := fun hc => ?_)
  · replace H1 := if_pe hc H1
    refine ev_lv [] [] (k := ?_)
    exact E12_feature_19 q1.2 _ H1
  · replace H1 := if_ne hc H1
    refine ev_iload_n (M := T12_feature) (pc := 7) 2 dX12_feature_7 (k := ?_)
    refine ev_i2l (M := T12_feature) (pc := 8) dX12_feature_8 (k := ?_)
    refine ev_lconst (M := T12_feature) (pc := 9) (v := 0) dX12_feature_9 (k := ?_)
    refine ev_ldc2 (M := T12_feature) (pc := 10) (n := 2) cl_X12_281 dX12_feature_10 (hv := cw_X12_281) (k := ?_)
    obtain ⟨q2, hq, H2⟩ := bd_e H1
    clear H1
    refine ev_callS (M := T12_feature) (pc := 13) (mc := 0) (ms := 0) (st := []) (C12_in hq) md_X12_in ss_X12_in ml_X12_268 dX12_feature_13 _ (by decide) (K := ?_)
    refine ev_ifne (M := T12_feature) (pc := 16) 22 dX12_feature_16 (kt := fun hc => ?_) (kf := fun hc => ?_)
    · replace H2 := if_ne hc H2
      refine ev_aload_n (M := T12_feature) (pc := 22) 0 dX12_feature_22 (k := ?_)
      refine ev_getR (M := T12_feature) (pc := 23) (t := 127) (x := some (127, 0)) fl_X12_80 dX12_feature_23 (hx := ry_12_27 _ _) (K := ?_)
      refine ev_iconst (M := T12_feature) (pc := 26) dX12_feature_26 (k := ?_)
      refine ev_iload_n (M := T12_feature) (pc := 27) 1 dX12_feature_27 (k := ?_)
      refine ev_imul (M := T12_feature) (pc := 28) dX12_feature_28 (k := ?_)
      refine ev_iload_n (M := T12_feature) (pc := 29) 2 dX12_feature_29 (k := ?_)
      refine ev_iadd (M := T12_feature) (pc := 30) dX12_feature_30 (k := ?_)
      obtain ⟨⟨hi0, hi1⟩, H3⟩ := g_e H2
      clear H2
      refine ev_zaload (M := T12_feature) (pc := 31) (k := 127) hi0 hi1 dX12_feature_31 (hc := ac_127) (hlen := ln_127 _ _) (K := ?_)
      obtain ⟨x3, ex3, H4⟩ := lt_e H3
      clear H3
      refine ev_topI ex3 ?_
      refine ev_istore (M := T12_feature) (pc := 32) [(4, .inl (x3)), (0, .inr (.inr (some (12, 0)))), (1, .inl (l1)), (2, .inl (l2)), (3, .inl (l3))] dX12_feature_32 (k := ?_)
      refine ev_aload_n (M := T12_feature) (pc := 34) 1 dX12_feature_34 (k := ?_)
      refine ev_getR (M := T12_feature) (pc := 35) (t := 127) (x := some (127, 0)) fl_X12_80 dX12_feature_35 (hx := ry_12_27 _ _) (K := ?_)
      refine ev_iconst (M := T12_feature) (pc := 38) dX12_feature_38 (k := ?_)
      refine ev_iload_n (M := T12_feature) (pc := 39) 2 dX12_feature_39 (k := ?_)
      refine ev_imul (M := T12_feature) (pc := 40) dX12_feature_40 (k := ?_)
      refine ev_iload_n (M := T12_feature) (pc := 41) 3 dX12_feature_41 (k := ?_)
      refine ev_iadd (M := T12_feature) (pc := 42) dX12_feature_42 (k := ?_)
      refine ev_iload_n (M := T12_feature) (pc := 43) 4 dX12_feature_43 (k := ?_)
      obtain ⟨⟨hi0, hi1⟩, H5⟩ := g_e H4
      clear H4
      obtain ⟨hz, H6⟩ := g_e H5
      clear H5
      obtain ⟨h4, eh4, H7⟩ := lt_e H6
      clear H6
      refine ev_zastore (M := T12_feature) (pc := 44) (k := 127) j_ok1 hi0 hi1 hz eh4 dX12_feature_44 (hc := ac_127) (hlen := ln_127 _ _) (K := ?_)
      refine ev_iload (M := T12_feature) (pc := 45) 0 dX12_feature_45 (k := ?_)
      refine ev_ifeq (M := T12_feature) (pc := 47) 54 dX12_feature_47 (kt := fun hc => ?_) (kf := fun hc => ?_)
      · replace H7 := if_pe hc H7
        refine ev_iconst (M := T12_feature) (pc := 54) dX12_feature_54 (k := ?_)
        cases H7
        exact ev_ireturn (M := T12_feature) (pc := 55) dX12_feature_55
      · replace H7 := if_ne hc H7
        refine ev_iconst (M := T12_feature) (pc := 50) dX12_feature_50 (k := ?_)
        refine ev_goto (M := T12_feature) (pc := 51) 55 dX12_feature_51 (k := ?_)
        cases H7
        exact ev_ireturn (M := T12_feature) (pc := 55) dX12_feature_55
    · replace H2 := if_pe hc H2
      refine ev_lv [] [] (k := ?_)
      exact E12_feature_19 q2.2 _ H2
-- X12_flag
abbrev T12_flag : JT := (RX12, cX12_flag, 2, none, false)
set_option maxRecDepth 100000 in
set_option maxHeartbeats 4000000 in
theorem E12_flag_38 (k2 : Int → JM → Option JM) (hk2 : ∀ (l1 : Int) (h : JM) (res : JM), k2 l1 h = some res → Ev j_W1 1 0 0 T12_flag 2 [(0, .inr (.inr (some (12, 0)))), (1, .inl (l1))] [] h none res) (l1 : Int) (s0 : Option Int) (s1 : Int) (s2 : Int) (h : JM) (res : JM) (H : F12_flag_38 k2 l1 s0 s1 s2 h = some res) : Ev j_W1 1 0 0 T12_flag 38 [(0, .inr (.inr (some (12, 0)))), (1, .inl (l1))] [.inl (s2), .inl (s1), .inr (.inr (Option.map (Prod.mk 169) (s0)))] h none res := by
  unfold F12_flag_38 at H
  obtain ⟨a1, ea1, H1⟩ := bd_e H
  clear H
  rw [ea1]
  obtain ⟨⟨hi0, hi1⟩, H2⟩ := g_e H1
  clear H1
  obtain ⟨h2, eh2, H3⟩ := lt_e H2
  clear H2
  refine ev_iastore (M := T12_flag) (pc := 38) (k := 169) j_ok1 hi0 hi1 eh2 dX12_flag_38 (hc := ac_169) (hlen := ln_169 _ _) (K := ?_)
  refine ev_iinc (M := T12_flag) (pc := 39) 1 [(1, .inl (w32 (l1 + 1))), (0, .inr (.inr (some (12, 0))))] dX12_flag_39 (k := ?_)
  refine ev_goto (M := T12_flag) (pc := 42) 2 dX12_flag_42 (k := ?_)
  refine ev_lv [1, 0] [(0, .inr (.inr (some (12, 0)))), (1, .inl (w32 (l1 + 1)))] (k := ?_)
  exact hk2 (w32 (l1 + 1)) h2 _ H3
set_option maxRecDepth 100000 in
set_option maxHeartbeats 4000000 in
theorem E12_flag_33 (k2 : Int → JM → Option JM) (hk2 : ∀ (l1 : Int) (h : JM) (res : JM), k2 l1 h = some res → Ev j_W1 1 0 0 T12_flag 2 [(0, .inr (.inr (some (12, 0)))), (1, .inl (l1))] [] h none res) (l1 : Int) (s0 : Option Int) (s1 : Int) (h : JM) (res : JM) (H : F12_flag_33 k2 l1 s0 s1 h = some res) : Ev j_W1 1 0 0 T12_flag 33 [(0, .inr (.inr (some (12, 0)))), (1, .inl (l1))] [.inl (s1), .inr (.inr (Option.map (Prod.mk 169) (s0)))] h none res := by
  unfold F12_flag_33 at H
  refine ev_iconst (M := T12_flag) (pc := 33) dX12_flag_33 (k := ?_)
  refine ev_goto (M := T12_flag) (pc := 34) 38 dX12_flag_34 (k := ?_)
  exact E12_flag_38 k2 hk2 l1 s0 s1 0 h _ H
set_option maxRecDepth 100000 in
set_option maxHeartbeats 4000000 in
theorem E12_flag_2b (k2 : Int → JM → Option JM) (hk2 : ∀ (l1 : Int) (h : JM) (res : JM), k2 l1 h = some res → Ev j_W1 1 0 0 T12_flag 2 [(0, .inr (.inr (some (12, 0)))), (1, .inl (l1))] [] h none res) (l1 : Int) (h : JM) (res : JM) (H : F12_flag_2b k2 l1 h = some res) : Ev j_W1 1 0 0 T12_flag 2 [(0, .inr (.inr (some (12, 0)))), (1, .inl (l1))] [] h none res := by
  unfold F12_flag_2b at H
  refine ev_iload_n (M := T12_flag) (pc := 2) 1 dX12_flag_2 (k := ?_)
  refine ev_bipush (M := T12_flag) (pc := 3) dX12_flag_3 (k := ?_)
  refine ev_icmpge (M := T12_flag) (pc := 5) 45 dX12_flag_5 (kt := fun hc => ?_) (kf := fun hc => ?_)
  · replace H := if_pe hc H
    cases H
    exact ev_return (M := T12_flag) (pc := 45) dX12_flag_45
  · replace H := if_ne hc H
    refine ev_aload_n (M := T12_flag) (pc := 8) 0 dX12_flag_8 (k := ?_)
    refine ev_getR (M := T12_flag) (pc := 9) (t := 169) (x := some (169, 0)) fl_X12_200 dX12_flag_9 (hx := ry_12_69 _ _) (K := ?_)
    refine ev_aload_n (M := T12_flag) (pc := 12) 0 dX12_flag_12 (k := ?_)
    refine ev_dup (M := T12_flag) (pc := 13) dX12_flag_13 (k := ?_)
    refine ev_getI (M := T12_flag) (pc := 14) (x := h.1 12 0 70) fl_X12_433 dX12_flag_14 (K := ?_)
    refine ev_dup_x1 (M := T12_flag) (pc := 17) dX12_flag_17 (k := ?_)
    refine ev_iconst (M := T12_flag) (pc := 18) dX12_flag_18 (k := ?_)
    refine ev_iadd (M := T12_flag) (pc := 19) dX12_flag_19 (k := ?_)
    obtain ⟨h3, eh3, H1⟩ := lt_e H
    clear H
    refine ev_putI (M := T12_flag) (pc := 20) j_ok1 fl_X12_433 eh3 dX12_flag_20 (K := ?_)
    refine ev_iload_n (M := T12_flag) (pc := 23) 1 dX12_flag_23 (k := ?_)
    refine ev_ifeq (M := T12_flag) (pc := 24) 33 dX12_flag_24 (kt := fun hc => ?_) (kf := fun hc => ?_)
    · replace H1 := if_pe hc H1
      exact E12_flag_33 k2 hk2 l1 (some 0) (h.1 12 0 70) h3 _ H1
    · replace H1 := if_ne hc H1
      refine ev_iload_n (M := T12_flag) (pc := 27) 1 dX12_flag_27 (k := ?_)
      refine ev_bipush (M := T12_flag) (pc := 28) dX12_flag_28 (k := ?_)
      refine ev_icmpne (M := T12_flag) (pc := 30) 37 dX12_flag_30 (kt := fun hc => ?_) (kf := fun hc => ?_)
      · replace H1 := if_ne hc H1
        refine ev_iconst (M := T12_flag) (pc := 37) dX12_flag_37 (k := ?_)
        exact E12_flag_38 k2 hk2 l1 (some 0) (h.1 12 0 70) 1 h3 _ H1
      · replace H1 := if_pe hc H1
        exact E12_flag_33 k2 hk2 l1 (some 0) (h.1 12 0 70) h3 _ H1
theorem E12_flag_2 (n : Nat) : ∀ (l1 : Int) (h : JM) (res : JM), F12_flag_2 n l1 h = some res → Ev j_W1 1 0 0 T12_flag 2 [(0, .inr (.inr (some (12, 0)))), (1, .inl (l1))] [] h none res := by
  induction n with
  | zero =>
    intro l1 h res H
    cases H
  | succ n ih =>
    intro l1 h res H
    exact E12_flag_2b (F12_flag_2 n) ih l1 h res H
set_option maxRecDepth 100000 in
set_option maxHeartbeats 4000000 in
theorem C12_flag {h : JM} {res : JM} (H : F12_flag h = some res) : Cn j_W1 1 0 0 yX12_flag cX12_flag 2 none [.inr (.inr (some (12, 0)))] h none res := by
  refine Cn.by (own := RX12) (b := false) [(0, .inr (.inr (some (12, 0))))] rfl (fun z => by cases z) (by decide +kernel) (K := ?_)
  unfold F12_flag at H
  refine ev_iconst (M := T12_flag) (pc := 0) dX12_flag_0 (k := ?_)
  refine ev_istore_n (M := T12_flag) (pc := 1) [(1, .inl (0)), (0, .inr (.inr (some (12, 0))))] dX12_flag_1 (k := ?_)
  refine ev_lv [1, 0] [(0, .inr (.inr (some (12, 0)))), (1, .inl (0))] (k := ?_)
  exact E12_flag_2 j_fu 0 h _ H
