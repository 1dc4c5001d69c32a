-- X12_looks
abbrev T12_looks : JT := (RX12, cX12_looks, 4, none, false)
set_option maxRecDepth 100000 in
set_option maxHeartbeats 4000000 in
theorem E12_looks_219b (k219 : Int → Int → Int → JM → Option JM) (hk219 : ∀ (l1 : Int) (l2 : Int) (l3 : Int) (h : JM) (res : JM), k219 l1 l2 l3 h = some res → Ev j_W1 90 0 0 T12_looks 219 [(0, .inr (.inr (some (12, 0)))), (1, .inl (l1)), (2, .inl (l2)), (3, .inl (l3))] [] h none res) (l1 : Int) (l2 : Int) (l3 : Int) (h : JM) (res : JM) (H : F12_looks_219b k219 l1 l2 l3 h = some res) : Ev j_W1 90 0 0 T12_looks 219 [(0, .inr (.inr (some (12, 0)))), (1, .inl (l1)), (2, .inl (l2)), (3, .inl (l3))] [] h none res := by
  unfold F12_looks_219b at H
  refine ev_iload_n (M := T12_looks) (pc := 219) 3 dX12_looks_219 (k := ?_)
  refine ev_aload_n (M := T12_looks) (pc := 220) 0 dX12_looks_220 (k := ?_)
  refine ev_getR (M := T12_looks) (pc := 221) (t := 118) (x := some (118, 0)) fl_X12_53 dX12_looks_221 (hx := ry_12_18 _ _) (K := ?_)
  refine ev_iload_n (M := T12_looks) (pc := 224) 1 dX12_looks_224 (k := ?_)
  obtain ⟨⟨hi0, hi1⟩, H1⟩ := g_e H
  clear H
  refine ev_iaload (M := T12_looks) (pc := 225) (k := 118) hi0 hi1 dX12_looks_225 (hc := ac_118) (hlen := ln_118 _ _) (K := ?_)
  refine ev_icmpge (M := T12_looks) (pc := 226) 259 dX12_looks_226 (kt := fun hc => ?_) (kf := fun hc => ?_)
  · replace H1 := if_pe hc H1
    refine ev_aload_n (M := T12_looks) (pc := 259) 0 dX12_looks_259 (k := ?_)
    refine ev_iload_n (M := T12_looks) (pc := 260) 1 dX12_looks_260 (k := ?_)
    refine ev_iload_n (M := T12_looks) (pc := 261) 2 dX12_looks_261 (k := ?_)
    obtain ⟨h1, hq, H2⟩ := bd_e H1
    clear H1
    refine ev_callV (M := T12_looks) (pc := 262) (mc := 0) (ms := 0) (st := []) (C12_keyComes hq) md_X12_keyComes im_X12_keyComes se_X12_keyComes ml_X12_310 dX12_looks_262 _ (by decide) (K := ?_)
    cases H2
    exact ev_return (M := T12_looks) (pc := 265) dX12_looks_265
  · replace H1 := if_ne hc H1
    refine ev_aload_n (M := T12_looks) (pc := 229) 0 dX12_looks_229 (k := ?_)
    refine ev_getR (M := T12_looks) (pc := 230) (t := 117) (x := some (117, 0)) fl_X12_50 dX12_looks_230 (hx := ry_12_17 _ _) (K := ?_)
    refine ev_bipush (M := T12_looks) (pc := 233) dX12_looks_233 (k := ?_)
    refine ev_iload_n (M := T12_looks) (pc := 235) 1 dX12_looks_235 (k := ?_)
    refine ev_imul (M := T12_looks) (pc := 236) dX12_looks_236 (k := ?_)
    refine ev_iload_n (M := T12_looks) (pc := 237) 3 dX12_looks_237 (k := ?_)
    refine ev_iadd (M := T12_looks) (pc := 238) dX12_looks_238 (k := ?_)
    refine ev_aload_n (M := T12_looks) (pc := 239) 0 dX12_looks_239 (k := ?_)
    refine ev_getR (M := T12_looks) (pc := 240) (t := 117) (x := some (117, 0)) fl_X12_50 dX12_looks_240 (hx := ry_12_17 _ _) (K := ?_)
    refine ev_bipush (M := T12_looks) (pc := 243) dX12_looks_243 (k := ?_)
    refine ev_iload_n (M := T12_looks) (pc := 245) 1 dX12_looks_245 (k := ?_)
    refine ev_imul (M := T12_looks) (pc := 246) dX12_looks_246 (k := ?_)
    refine ev_iload_n (M := T12_looks) (pc := 247) 3 dX12_looks_247 (k := ?_)
    refine ev_iadd (M := T12_looks) (pc := 248) dX12_looks_248 (k := ?_)
    refine ev_iconst (M := T12_looks) (pc := 249) dX12_looks_249 (k := ?_)
    refine ev_iadd (M := T12_looks) (pc := 250) dX12_looks_250 (k := ?_)
    obtain ⟨⟨hi0, hi1⟩, H2⟩ := g_e H1
    clear H1
    refine ev_iaload (M := T12_looks) (pc := 251) (k := 117) hi0 hi1 dX12_looks_251 (hc := ac_117) (hlen := ln_117 _ _) (K := ?_)
    obtain ⟨⟨hi0, hi1⟩, H3⟩ := g_e H2
    clear H2
    obtain ⟨h2, eh2, H4⟩ := lt_e H3
    clear H3
    refine ev_iastore (M := T12_looks) (pc := 252) (k := 117) j_ok1 hi0 hi1 eh2 dX12_looks_252 (hc := ac_117) (hlen := ln_117 _ _) (K := ?_)
    refine ev_iinc (M := T12_looks) (pc := 253) 3 [(3, .inl (w32 (l3 + 1))), (0, .inr (.inr (some (12, 0)))), (1, .inl (l1)), (2, .inl (l2))] dX12_looks_253 (k := ?_)
    refine ev_goto (M := T12_looks) (pc := 256) 219 dX12_looks_256 (k := ?_)
    refine ev_lv [1, 2, 3, 0] [(0, .inr (.inr (some (12, 0)))), (1, .inl (l1)), (2, .inl (l2)), (3, .inl (w32 (l3 + 1)))] (k := ?_)
    exact hk219 l1 l2 (w32 (l3 + 1)) h2 _ H4
theorem E12_looks_219 (n : Nat) : ∀ (l1 : Int) (l2 : Int) (l3 : Int) (h : JM) (res : JM), F12_looks_219 n l1 l2 l3 h = some res → Ev j_W1 90 0 0 T12_looks 219 [(0, .inr (.inr (some (12, 0)))), (1, .inl (l1)), (2, .inl (l2)), (3, .inl (l3))] [] h none res := by
  induction n with
  | zero =>
    intro l1 l2 l3 h res H
    cases H
  | succ n ih =>
    intro l1 l2 l3 h res H
    exact E12_looks_219b (F12_looks_219 n) ih l1 l2 l3 h res H
set_option maxRecDepth 100000 in
set_option maxHeartbeats 4000000 in
theorem E12_looks_126 (l1 : Int) (h : JM) (res : JM) (H : F12_looks_126 l1 h = some res) : Ev j_W1 90 0 0 T12_looks 126 [(0, .inr (.inr (some (12, 0)))), (1, .inl (l1))] [] h none res := by
  unfold F12_looks_126 at H
  refine ev_aload_n (M := T12_looks) (pc := 126) 0 dX12_looks_126 (k := ?_)
  refine ev_getR (M := T12_looks) (pc := 127) (t := 115) (x := some (115, 0)) fl_X12_44 dX12_looks_127 (hx := ry_12_15 _ _) (K := ?_)
  refine ev_iload_n (M := T12_looks) (pc := 130) 1 dX12_looks_130 (k := ?_)
  obtain ⟨⟨hi0, hi1⟩, H1⟩ := g_e H
  clear H
  refine ev_iaload (M := T12_looks) (pc := 131) (k := 115) hi0 hi1 dX12_looks_131 (hc := ac_115) (hlen := ln_115 _ _) (K := ?_)
  refine ev_ifle (M := T12_looks) (pc := 132) 188 dX12_looks_132 (kt := fun hc => ?_) (kf := fun hc => ?_)
  · replace H1 := if_pe hc H1
    refine ev_aload_n (M := T12_looks) (pc := 188) 0 dX12_looks_188 (k := ?_)
    refine ev_getR (M := T12_looks) (pc := 189) (t := 118) (x := some (118, 0)) fl_X12_53 dX12_looks_189 (hx := ry_12_18 _ _) (K := ?_)
    refine ev_iload_n (M := T12_looks) (pc := 192) 1 dX12_looks_192 (k := ?_)
    obtain ⟨⟨hi0, hi1⟩, H2⟩ := g_e H1
    clear H1
    refine ev_iaload (M := T12_looks) (pc := 193) (k := 118) hi0 hi1 dX12_looks_193 (hc := ac_118) (hlen := ln_118 _ _) (K := ?_)
    refine ev_ifle (M := T12_looks) (pc := 194) 265 dX12_looks_194 (kt := fun hc => ?_) (kf := fun hc => ?_)
    · replace H2 := if_pe hc H2
      cases H2
      exact ev_return (M := T12_looks) (pc := 265) dX12_looks_265
    · replace H2 := if_ne hc H2
      refine ev_aload_n (M := T12_looks) (pc := 197) 0 dX12_looks_197 (k := ?_)
      refine ev_getR (M := T12_looks) (pc := 198) (t := 117) (x := some (117, 0)) fl_X12_50 dX12_looks_198 (hx := ry_12_17 _ _) (K := ?_)
      refine ev_bipush (M := T12_looks) (pc := 201) dX12_looks_201 (k := ?_)
      refine ev_iload_n (M := T12_looks) (pc := 203) 1 dX12_looks_203 (k := ?_)
      refine ev_imul (M := T12_looks) (pc := 204) dX12_looks_204 (k := ?_)
      obtain ⟨⟨hi0, hi1⟩, H3⟩ := g_e H2
      clear H2
      refine ev_iaload (M := T12_looks) (pc := 205) (k := 117) hi0 hi1 dX12_looks_205 (hc := ac_117) (hlen := ln_117 _ _) (K := ?_)
      obtain ⟨x3, ex3, H4⟩ := lt_e H3
      clear H3
      refine ev_topI ex3 ?_
      refine ev_istore_n (M := T12_looks) (pc := 206) [(2, .inl (x3)), (0, .inr (.inr (some (12, 0)))), (1, .inl (l1))] dX12_looks_206 (k := ?_)
      refine ev_aload_n (M := T12_looks) (pc := 207) 1 dX12_looks_207 (k := ?_)
      refine ev_getR (M := T12_looks) (pc := 208) (t := 118) (x := some (118, 0)) fl_X12_53 dX12_looks_208 (hx := ry_12_18 _ _) (K := ?_)
      refine ev_iload_n (M := T12_looks) (pc := 211) 2 dX12_looks_211 (k := ?_)
      refine ev_dup2 (M := T12_looks) (pc := 212) dX12_looks_212 (k := ?_)
      obtain ⟨⟨hi0, hi1⟩, H5⟩ := g_e H4
      clear H4
      refine ev_iaload (M := T12_looks) (pc := 213) (k := 118) hi0 hi1 dX12_looks_213 (hc := ac_118) (hlen := ln_118 _ _) (K := ?_)
      refine ev_iconst (M := T12_looks) (pc := 214) dX12_looks_214 (k := ?_)
      refine ev_isub (M := T12_looks) (pc := 215) dX12_looks_215 (k := ?_)
      obtain ⟨⟨hi0, hi1⟩, H6⟩ := g_e H5
      clear H5
      obtain ⟨h4, eh4, H7⟩ := lt_e H6
      clear H6
      refine ev_iastore (M := T12_looks) (pc := 216) (k := 118) j_ok1 hi0 hi1 eh4 dX12_looks_216 (hc := ac_118) (hlen := ln_118 _ _) (K := ?_)
      refine ev_iconst (M := T12_looks) (pc := 217) dX12_looks_217 (k := ?_)
      refine ev_istore_n (M := T12_looks) (pc := 218) [(3, .inl (0)), (2, .inl (x3)), (0, .inr (.inr (some (12, 0)))), (1, .inl (l1))] dX12_looks_218 (k := ?_)
      refine ev_lv [2, 3, 1, 0] [(0, .inr (.inr (some (12, 0)))), (1, .inl (l1)), (2, .inl (x3)), (3, .inl (0))] (k := ?_)
      exact E12_looks_219 j_fu l1 x3 0 h4 _ H7
  · replace H1 := if_ne hc H1
    refine ev_aload_n (M := T12_looks) (pc := 135) 0 dX12_looks_135 (k := ?_)
    refine ev_getR (M := T12_looks) (pc := 136) (t := 116) (x := some (116, 0)) fl_X12_47 dX12_looks_136 (hx := ry_12_16 _ _) (K := ?_)
    refine ev_iload_n (M := T12_looks) (pc := 139) 1 dX12_looks_139 (k := ?_)
    refine ev_dup2 (M := T12_looks) (pc := 140) dX12_looks_140 (k := ?_)
    obtain ⟨⟨hi0, hi1⟩, H2⟩ := g_e H1
    clear H1
    refine ev_iaload (M := T12_looks) (pc := 141) (k := 116) hi0 hi1 dX12_looks_141 (hc := ac_116) (hlen := ln_116 _ _) (K := ?_)
    refine ev_iconst (M := T12_looks) (pc := 142) dX12_looks_142 (k := ?_)
    refine ev_iadd (M := T12_looks) (pc := 143) dX12_looks_143 (k := ?_)
    obtain ⟨⟨hi0, hi1⟩, H3⟩ := g_e H2
    clear H2
    obtain ⟨h5, eh5, H4⟩ := lt_e H3
    clear H3
    refine ev_iastore (M := T12_looks) (pc := 144) (k := 116) j_ok1 hi0 hi1 eh5 dX12_looks_144 (hc := ac_116) (hlen := ln_116 _ _) (K := ?_)
    refine ev_aload_n (M := T12_looks) (pc := 145) 0 dX12_looks_145 (k := ?_)
    refine ev_getR (M := T12_looks) (pc := 146) (t := 116) (x := some (116, 0)) fl_X12_47 dX12_looks_146 (hx := ry_12_16 _ _) (K := ?_)
    refine ev_iload_n (M := T12_looks) (pc := 149) 1 dX12_looks_149 (k := ?_)
    obtain ⟨⟨hi0, hi1⟩, H5⟩ := g_e H4
    clear H4
    refine ev_iaload (M := T12_looks) (pc := 150) (k := 116) hi0 hi1 dX12_looks_150 (hc := ac_116) (hlen := ln_116 _ _) (K := ?_)
    refine ev_bipush (M := T12_looks) (pc := 151) dX12_looks_151 (k := ?_)
    refine ev_icmpne (M := T12_looks) (pc := 153) 265 dX12_looks_153 (kt := fun hc => ?_) (kf := fun hc => ?_)
    · replace H5 := if_ne hc H5
      cases H5
      exact ev_return (M := T12_looks) (pc := 265) dX12_looks_265
    · replace H5 := if_pe hc H5
      refine ev_aload_n (M := T12_looks) (pc := 156) 0 dX12_looks_156 (k := ?_)
      refine ev_getR (M := T12_looks) (pc := 157) (t := 115) (x := some (115, 0)) fl_X12_44 dX12_looks_157 (hx := ry_12_15 _ _) (K := ?_)
      refine ev_iload_n (M := T12_looks) (pc := 160) 1 dX12_looks_160 (k := ?_)
      obtain ⟨⟨hi0, hi1⟩, H6⟩ := g_e H5
      clear H5
      refine ev_iaload (M := T12_looks) (pc := 161) (k := 115) hi0 hi1 dX12_looks_161 (hc := ac_115) (hlen := ln_115 _ _) (K := ?_)
      obtain ⟨x6, ex6, H7⟩ := lt_e H6
      clear H6
      refine ev_topI ex6 ?_
      refine ev_istore_n (M := T12_looks) (pc := 162) [(2, .inl (x6)), (0, .inr (.inr (some (12, 0)))), (1, .inl (l1))] dX12_looks_162 (k := ?_)
      refine ev_aload_n (M := T12_looks) (pc := 163) 1 dX12_looks_163 (k := ?_)
      refine ev_getR (M := T12_looks) (pc := 164) (t := 115) (x := some (115, 0)) fl_X12_44 dX12_looks_164 (hx := ry_12_15 _ _) (K := ?_)
      refine ev_iload_n (M := T12_looks) (pc := 167) 2 dX12_looks_167 (k := ?_)
      refine ev_iconst (M := T12_looks) (pc := 168) dX12_looks_168 (k := ?_)
      obtain ⟨⟨hi0, hi1⟩, H8⟩ := g_e H7
      clear H7
      obtain ⟨h7, eh7, H9⟩ := lt_e H8
      clear H8
      refine ev_iastore (M := T12_looks) (pc := 169) (k := 115) j_ok1 hi0 hi1 eh7 dX12_looks_169 (hc := ac_115) (hlen := ln_115 _ _) (K := ?_)
      refine ev_iload_n (M := T12_looks) (pc := 170) 0 dX12_looks_170 (k := ?_)
      refine ev_bipush (M := T12_looks) (pc := 171) dX12_looks_171 (k := ?_)
      refine ev_icmpgt (M := T12_looks) (pc := 173) 185 dX12_looks_173 (kt := fun hc => ?_) (kf := fun hc => ?_)
      · replace H9 := if_pe hc H9
        refine ev_goto (M := T12_looks) (pc := 185) 265 dX12_looks_185 (k := ?_)
        cases H9
        exact ev_return (M := T12_looks) (pc := 265) dX12_looks_265
      · replace H9 := if_ne hc H9
        refine ev_aload_n (M := T12_looks) (pc := 176) 1 dX12_looks_176 (k := ?_)
        refine ev_iload_n (M := T12_looks) (pc := 177) 2 dX12_looks_177 (k := ?_)
        refine ev_iload_n (M := T12_looks) (pc := 178) 0 dX12_looks_178 (k := ?_)
        refine ev_bipush (M := T12_looks) (pc := 179) dX12_looks_179 (k := ?_)
        refine ev_irem (M := T12_looks) (pc := 181) dX12_looks_181 (by decide) (k := ?_)
        obtain ⟨h8, hq, H10⟩ := bd_e H9
        clear H9
        refine ev_callV (M := T12_looks) (pc := 182) (mc := 0) (ms := 0) (st := []) (C12_keyComes hq) md_X12_keyComes im_X12_keyComes se_X12_keyComes ml_X12_310 dX12_looks_182 _ (by decide) (K := ?_)
        refine ev_goto (M := T12_looks) (pc := 185) 265 dX12_looks_185 (k := ?_)
        cases H10
        exact ev_return (M := T12_looks) (pc := 265) dX12_looks_265
set_option maxRecDepth 100000 in
set_option maxHeartbeats 4000000 in
theorem C12_looks {l1 : Int} {h : JM} {res : JM} (H : F12_looks l1 h = some res) : Cn j_W1 90 0 0 yX12_looks cX12_looks 4 none [.inr (.inr (some (12, 0))), .inl (l1)] h none res := by
  refine Cn.by (own := RX12) (b := false) [(0, .inr (.inr (some (12, 0)))), (1, .inl (l1))] rfl (fun z => by cases z) (by decide +kernel) (K := ?_)
  unfold F12_looks at H
  refine ev_aload_n (M := T12_looks) (pc := 0) 0 dX12_looks_0 (k := ?_)
  refine ev_getR (M := T12_looks) (pc := 1) (t := 112) (x := some (112, 0)) fl_X12_34 dX12_looks_1 (hx := ry_12_12 _ _) (K := ?_)
  refine ev_iload_n (M := T12_looks) (pc := 4) 1 dX12_looks_4 (k := ?_)
  obtain ⟨⟨hi0, hi1⟩, H1⟩ := g_e H
  clear H
  refine ev_zaload (M := T12_looks) (pc := 5) (k := 112) hi0 hi1 dX12_looks_5 (hc := ac_112) (hlen := ln_112 _ _) (K := ?_)
  refine ev_ifne (M := T12_looks) (pc := 6) 24 dX12_looks_6 (kt := fun hc => ?_) (kf := fun hc => ?_)
  · replace H1 := if_ne hc H1
    refine ev_aload_n (M := T12_looks) (pc := 24) 0 dX12_looks_24 (k := ?_)
    refine ev_getR (M := T12_looks) (pc := 25) (t := 113) (x := some (113, 0)) fl_X12_38 dX12_looks_25 (hx := ry_12_13 _ _) (K := ?_)
    refine ev_iload_n (M := T12_looks) (pc := 28) 1 dX12_looks_28 (k := ?_)
    obtain ⟨⟨hi0, hi1⟩, H2⟩ := g_e H1
    clear H1
    refine ev_zaload (M := T12_looks) (pc := 29) (k := 113) hi0 hi1 dX12_looks_29 (hc := ac_113) (hlen := ln_113 _ _) (K := ?_)
    refine ev_ifne (M := T12_looks) (pc := 30) 60 dX12_looks_30 (kt := fun hc => ?_) (kf := fun hc => ?_)
    · replace H2 := if_ne hc H2
      refine ev_aload_n (M := T12_looks) (pc := 60) 0 dX12_looks_60 (k := ?_)
      refine ev_getR (M := T12_looks) (pc := 61) (t := 114) (x := some (114, 0)) fl_X12_41 dX12_looks_61 (hx := ry_12_14 _ _) (K := ?_)
      refine ev_iload_n (M := T12_looks) (pc := 64) 1 dX12_looks_64 (k := ?_)
      obtain ⟨⟨hi0, hi1⟩, H3⟩ := g_e H2
      clear H2
      refine ev_iaload (M := T12_looks) (pc := 65) (k := 114) hi0 hi1 dX12_looks_65 (hc := ac_114) (hlen := ln_114 _ _) (K := ?_)
      refine ev_bipush (M := T12_looks) (pc := 66) dX12_looks_66 (k := ?_)
      refine ev_icmple (M := T12_looks) (pc := 68) 93 dX12_looks_68 (kt := fun hc => ?_) (kf := fun hc => ?_)
      · replace H3 := if_pe hc H3
        refine ev_aload_n (M := T12_looks) (pc := 93) 0 dX12_looks_93 (k := ?_)
        refine ev_getR (M := T12_looks) (pc := 94) (t := 114) (x := some (114, 0)) fl_X12_41 dX12_looks_94 (hx := ry_12_14 _ _) (K := ?_)
        refine ev_iload_n (M := T12_looks) (pc := 97) 1 dX12_looks_97 (k := ?_)
        obtain ⟨⟨hi0, hi1⟩, H4⟩ := g_e H3
        clear H3
        refine ev_iaload (M := T12_looks) (pc := 98) (k := 114) hi0 hi1 dX12_looks_98 (hc := ac_114) (hlen := ln_114 _ _) (K := ?_)
        refine ev_ifle (M := T12_looks) (pc := 99) 126 dX12_looks_99 (kt := fun hc => ?_) (kf := fun hc => ?_)
        · replace H4 := if_pe hc H4
          exact E12_looks_126 l1 h _ H4
        · replace H4 := if_ne hc H4
          refine ev_aload_n (M := T12_looks) (pc := 102) 0 dX12_looks_102 (k := ?_)
          refine ev_getR (M := T12_looks) (pc := 103) (t := 115) (x := some (115, 0)) fl_X12_44 dX12_looks_103 (hx := ry_12_15 _ _) (K := ?_)
          refine ev_iload_n (M := T12_looks) (pc := 106) 1 dX12_looks_106 (k := ?_)
          refine ev_dup2 (M := T12_looks) (pc := 107) dX12_looks_107 (k := ?_)
          obtain ⟨⟨hi0, hi1⟩, H5⟩ := g_e H4
          clear H4
          refine ev_iaload (M := T12_looks) (pc := 108) (k := 115) hi0 hi1 dX12_looks_108 (hc := ac_115) (hlen := ln_115 _ _) (K := ?_)
          refine ev_iconst (M := T12_looks) (pc := 109) dX12_looks_109 (k := ?_)
          refine ev_iadd (M := T12_looks) (pc := 110) dX12_looks_110 (k := ?_)
          obtain ⟨⟨hi0, hi1⟩, H6⟩ := g_e H5
          clear H5
          obtain ⟨h9, eh9, H7⟩ := lt_e H6
          clear H6
          refine ev_iastore (M := T12_looks) (pc := 111) (k := 115) j_ok1 hi0 hi1 eh9 dX12_looks_111 (hc := ac_115) (hlen := ln_115 _ _) (K := ?_)
          refine ev_aload_n (M := T12_looks) (pc := 112) 0 dX12_looks_112 (k := ?_)
          refine ev_getR (M := T12_looks) (pc := 113) (t := 116) (x := some (116, 0)) fl_X12_47 dX12_looks_113 (hx := ry_12_16 _ _) (K := ?_)
          refine ev_iload_n (M := T12_looks) (pc := 116) 1 dX12_looks_116 (k := ?_)
          refine ev_iconst (M := T12_looks) (pc := 117) dX12_looks_117 (k := ?_)
          obtain ⟨⟨hi0, hi1⟩, H8⟩ := g_e H7
          clear H7
          obtain ⟨h10, eh10, H9⟩ := lt_e H8
          clear H8
          refine ev_iastore (M := T12_looks) (pc := 118) (k := 116) j_ok1 hi0 hi1 eh10 dX12_looks_118 (hc := ac_116) (hlen := ln_116 _ _) (K := ?_)
          refine ev_aload_n (M := T12_looks) (pc := 119) 0 dX12_looks_119 (k := ?_)
          refine ev_getR (M := T12_looks) (pc := 120) (t := 114) (x := some (114, 0)) fl_X12_41 dX12_looks_120 (hx := ry_12_14 _ _) (K := ?_)
          refine ev_iload_n (M := T12_looks) (pc := 123) 1 dX12_looks_123 (k := ?_)
          refine ev_iconst (M := T12_looks) (pc := 124) dX12_looks_124 (k := ?_)
          obtain ⟨⟨hi0, hi1⟩, H10⟩ := g_e H9
          clear H9
          obtain ⟨h11, eh11, H11⟩ := lt_e H10
          clear H10
          refine ev_iastore (M := T12_looks) (pc := 125) (k := 114) j_ok1 hi0 hi1 eh11 dX12_looks_125 (hc := ac_114) (hlen := ln_114 _ _) (K := ?_)
          exact E12_looks_126 l1 h11 _ H11
      · replace H3 := if_ne hc H3
        refine ev_aload_n (M := T12_looks) (pc := 71) 0 dX12_looks_71 (k := ?_)
        refine ev_getR (M := T12_looks) (pc := 72) (t := 115) (x := some (115, 0)) fl_X12_44 dX12_looks_72 (hx := ry_12_15 _ _) (K := ?_)
        refine ev_iload_n (M := T12_looks) (pc := 75) 1 dX12_looks_75 (k := ?_)
        refine ev_iconst (M := T12_looks) (pc := 76) dX12_looks_76 (k := ?_)
        obtain ⟨⟨hi0, hi1⟩, H4⟩ := g_e H3
        clear H3
        obtain ⟨h12, eh12, H5⟩ := lt_e H4
        clear H4
        refine ev_iastore (M := T12_looks) (pc := 77) (k := 115) j_ok1 hi0 hi1 eh12 dX12_looks_77 (hc := ac_115) (hlen := ln_115 _ _) (K := ?_)
        refine ev_aload_n (M := T12_looks) (pc := 78) 0 dX12_looks_78 (k := ?_)
        refine ev_getR (M := T12_looks) (pc := 79) (t := 114) (x := some (114, 0)) fl_X12_41 dX12_looks_79 (hx := ry_12_14 _ _) (K := ?_)
        refine ev_iload_n (M := T12_looks) (pc := 82) 1 dX12_looks_82 (k := ?_)
        refine ev_iconst (M := T12_looks) (pc := 83) dX12_looks_83 (k := ?_)
        obtain ⟨⟨hi0, hi1⟩, H6⟩ := g_e H5
        clear H5
        obtain ⟨h13, eh13, H7⟩ := lt_e H6
        clear H6
        refine ev_iastore (M := T12_looks) (pc := 84) (k := 114) j_ok1 hi0 hi1 eh13 dX12_looks_84 (hc := ac_114) (hlen := ln_114 _ _) (K := ?_)
        refine ev_aload_n (M := T12_looks) (pc := 85) 0 dX12_looks_85 (k := ?_)
        refine ev_iload_n (M := T12_looks) (pc := 86) 1 dX12_looks_86 (k := ?_)
        obtain ⟨h14, hq, H8⟩ := bd_e H7
        clear H7
        refine ev_callV (M := T12_looks) (pc := 87) (mc := 0) (ms := 0) (st := []) (C12_flashes hq) md_X12_flashes im_X12_flashes se_X12_flashes ml_X12_307 dX12_looks_87 _ (by decide) (K := ?_)
        refine ev_goto (M := T12_looks) (pc := 90) 126 dX12_looks_90 (k := ?_)
        exact E12_looks_126 l1 h14 _ H8
    · replace H2 := if_pe hc H2
      refine ev_aload_n (M := T12_looks) (pc := 33) 0 dX12_looks_33 (k := ?_)
      refine ev_getR (M := T12_looks) (pc := 34) (t := 114) (x := some (114, 0)) fl_X12_41 dX12_looks_34 (hx := ry_12_14 _ _) (K := ?_)
      refine ev_iload_n (M := T12_looks) (pc := 37) 1 dX12_looks_37 (k := ?_)
      refine ev_dup2 (M := T12_looks) (pc := 38) dX12_looks_38 (k := ?_)
      obtain ⟨⟨hi0, hi1⟩, H3⟩ := g_e H2
      clear H2
      refine ev_iaload (M := T12_looks) (pc := 39) (k := 114) hi0 hi1 dX12_looks_39 (hc := ac_114) (hlen := ln_114 _ _) (K := ?_)
      refine ev_iconst (M := T12_looks) (pc := 40) dX12_looks_40 (k := ?_)
      refine ev_iadd (M := T12_looks) (pc := 41) dX12_looks_41 (k := ?_)
      obtain ⟨⟨hi0, hi1⟩, H4⟩ := g_e H3
      clear H3
      obtain ⟨h15, eh15, H5⟩ := lt_e H4
      clear H4
      refine ev_iastore (M := T12_looks) (pc := 42) (k := 114) j_ok1 hi0 hi1 eh15 dX12_looks_42 (hc := ac_114) (hlen := ln_114 _ _) (K := ?_)
      refine ev_aload_n (M := T12_looks) (pc := 43) 0 dX12_looks_43 (k := ?_)
      refine ev_getR (M := T12_looks) (pc := 44) (t := 114) (x := some (114, 0)) fl_X12_41 dX12_looks_44 (hx := ry_12_14 _ _) (K := ?_)
      refine ev_iload_n (M := T12_looks) (pc := 47) 1 dX12_looks_47 (k := ?_)
      obtain ⟨⟨hi0, hi1⟩, H6⟩ := g_e H5
      clear H5
      refine ev_iaload (M := T12_looks) (pc := 48) (k := 114) hi0 hi1 dX12_looks_48 (hc := ac_114) (hlen := ln_114 _ _) (K := ?_)
      refine ev_bipush (M := T12_looks) (pc := 49) dX12_looks_49 (k := ?_)
      refine ev_icmpne (M := T12_looks) (pc := 51) 59 dX12_looks_51 (kt := fun hc => ?_) (kf := fun hc => ?_)
      · replace H6 := if_ne hc H6
        cases H6
        exact ev_return (M := T12_looks) (pc := 59) dX12_looks_59
      · replace H6 := if_pe hc H6
        refine ev_aload_n (M := T12_looks) (pc := 54) 0 dX12_looks_54 (k := ?_)
        refine ev_iload_n (M := T12_looks) (pc := 55) 1 dX12_looks_55 (k := ?_)
        obtain ⟨h16, hq, H7⟩ := bd_e H6
        clear H6
        refine ev_callV (M := T12_looks) (pc := 56) (mc := 0) (ms := 0) (st := []) (C12_hangs hq) md_X12_hangs im_X12_hangs se_X12_hangs ml_X12_304 dX12_looks_56 _ (by decide) (K := ?_)
        cases H7
        exact ev_return (M := T12_looks) (pc := 59) dX12_looks_59
  · replace H1 := if_pe hc H1
    refine ev_aload_n (M := T12_looks) (pc := 9) 0 dX12_looks_9 (k := ?_)
    refine ev_getR (M := T12_looks) (pc := 10) (t := 113) (x := some (113, 0)) fl_X12_38 dX12_looks_10 (hx := ry_12_13 _ _) (K := ?_)
    refine ev_iload_n (M := T12_looks) (pc := 13) 1 dX12_looks_13 (k := ?_)
    obtain ⟨⟨hi0, hi1⟩, H2⟩ := g_e H1
    clear H1
    refine ev_zaload (M := T12_looks) (pc := 14) (k := 113) hi0 hi1 dX12_looks_14 (hc := ac_113) (hlen := ln_113 _ _) (K := ?_)
    refine ev_ifeq (M := T12_looks) (pc := 15) 23 dX12_looks_15 (kt := fun hc => ?_) (kf := fun hc => ?_)
    · replace H2 := if_pe hc H2
      cases H2
      exact ev_return (M := T12_looks) (pc := 23) dX12_looks_23
    · replace H2 := if_ne hc H2
      refine ev_aload_n (M := T12_looks) (pc := 18) 0 dX12_looks_18 (k := ?_)
      refine ev_iload_n (M := T12_looks) (pc := 19) 1 dX12_looks_19 (k := ?_)
      obtain ⟨h17, hq, H3⟩ := bd_e H2
      clear H2
      refine ev_callV (M := T12_looks) (pc := 20) (mc := 0) (ms := 0) (st := []) (C12_lifts hq) md_X12_lifts im_X12_lifts se_X12_lifts ml_X12_300 dX12_looks_20 _ (by decide) (K := ?_)
      cases H3
      exact ev_return (M := T12_looks) (pc := 23) dX12_looks_23
-- X12_lose
abbrev T12_lose : JT := (RX12, cX12_lose, 5, some .int, false)
set_option maxRecDepth 100000 in
set_option maxHeartbeats 4000000 in
theorem E12_lose_95 (k40 : Int → Int → Int → Int → JM → Option (Int × JM)) (hk40 : ∀ (l1 : Int) (l2 : Int) (l3 : Int) (l4 : Int) (h : JM) (res : (Int × JM)), k40 l1 l2 l3 l4 h = some res → Ev j_W1 2 0 0 T12_lose 40 [(0, .inr (.inr (some (12, 0)))), (1, .inl (l1)), (2, .inl (l2)), (3, .inl (l3)), (4, .inl (l4))] [] h (some (.inl res.1)) res.2) (l1 : Int) (l2 : Int) (l3 : Int) (l4 : Int) (h : JM) (res : (Int × JM)) (H : F12_lose_95 k40 l1 l2 l3 l4 h = some res) : Ev j_W1 2 0 0 T12_lose 95 [(0, .inr (.inr (some (12, 0)))), (1, .inl (l1)), (2, .inl (l2)), (3, .inl (l3)), (4, .inl (l4))] [] h (some (.inl res.1)) res.2 := by
  unfold F12_lose_95 at H
  refine ev_iinc (M := T12_lose) (pc := 95) 4 [(4, .inl (w32 (l4 + 1))), (0, .inr (.inr (some (12, 0)))), (1, .inl (l1)), (2, .inl (l2)), (3, .inl (l3))] dX12_lose_95 (k := ?_)
  refine ev_goto (M := T12_lose) (pc := 98) 40 dX12_lose_98 (k := ?_)
  refine ev_lv [1, 2, 3, 4, 0] [(0, .inr (.inr (some (12, 0)))), (1, .inl (l1)), (2, .inl (l2)), (3, .inl (l3)), (4, .inl (w32 (l4 + 1)))] (k := ?_)
  exact hk40 l1 l2 l3 (w32 (l4 + 1)) h _ H
set_option maxRecDepth 100000 in
set_option maxHeartbeats 4000000 in
theorem E12_lose_40b (k40 : Int → Int → Int → Int → JM → Option (Int × JM)) (hk40 : ∀ (l1 : Int) (l2 : Int) (l3 : Int) (l4 : Int) (h : JM) (res : (Int × JM)), k40 l1 l2 l3 l4 h = some res → Ev j_W1 2 0 0 T12_lose 40 [(0, .inr (.inr (some (12, 0)))), (1, .inl (l1)), (2, .inl (l2)), (3, .inl (l3)), (4, .inl (l4))] [] h (some (.inl res.1)) res.2) (l1 : Int) (l2 : Int) (l3 : Int) (l4 : Int) (h : JM) (res : (Int × JM)) (H : F12_lose_40b k40 l1 l2 l3 l4 h = some res) : Ev j_W1 2 0 0 T12_lose 40 [(0, .inr (.inr (some (12, 0)))), (1, .inl (l1)), (2, .inl (l2)), (3, .inl (l3)), (4, .inl (l4))] [] h (some (.inl res.1)) res.2 := by
  unfold F12_lose_40b at H
  refine ev_iload (M := T12_lose) (pc := 40) 4 dX12_lose_40 (k := ?_)
  refine ev_aload_n (M := T12_lose) (pc := 42) 0 dX12_lose_42 (k := ?_)
  refine ev_getI (M := T12_lose) (pc := 43) (x := h.1 12 0 79) fl_X12_425 dX12_lose_43 (K := ?_)
  refine ev_icmpge (M := T12_lose) (pc := 46) 101 dX12_lose_46 (kt := fun hc => ?_) (kf := fun hc => ?_)
  · replace H := if_pe hc H
    refine ev_aload_n (M := T12_lose) (pc := 101) 0 dX12_lose_101 (k := ?_)
    refine ev_iload_n (M := T12_lose) (pc := 102) 3 dX12_lose_102 (k := ?_)
    obtain ⟨h1, eh1, H1⟩ := lt_e H
    clear H
    refine ev_putI (M := T12_lose) (pc := 103) j_ok1 fl_X12_425 eh1 dX12_lose_103 (K := ?_)
    refine ev_aload_n (M := T12_lose) (pc := 106) 0 dX12_lose_106 (k := ?_)
    refine ev_getI (M := T12_lose) (pc := 107) (x := h1.1 12 0 79) fl_X12_425 dX12_lose_107 (K := ?_)
    refine ev_sipush (M := T12_lose) (pc := 110) dX12_lose_110 (k := ?_)
    refine ev_icmpne (M := T12_lose) (pc := 113) 119 dX12_lose_113 (kt := fun hc => ?_) (kf := fun hc => ?_)
    · replace H1 := if_ne hc H1
      refine ev_aload_n (M := T12_lose) (pc := 119) 0 dX12_lose_119 (k := ?_)
      refine ev_getR (M := T12_lose) (pc := 120) (t := 180) (x := some (180, 0)) fl_X12_225 dX12_lose_120 (hx := ry_12_80 _ _) (K := ?_)
      refine ev_aload_n (M := T12_lose) (pc := 123) 0 dX12_lose_123 (k := ?_)
      refine ev_getI (M := T12_lose) (pc := 124) (x := h1.1 12 0 79) fl_X12_425 dX12_lose_124 (K := ?_)
      refine ev_iload_n (M := T12_lose) (pc := 127) 1 dX12_lose_127 (k := ?_)
      obtain ⟨⟨hi0, hi1⟩, H2⟩ := g_e H1
      clear H1
      obtain ⟨h2, eh2, H3⟩ := lt_e H2
      clear H2
      refine ev_iastore (M := T12_lose) (pc := 128) (k := 180) j_ok1 hi0 hi1 eh2 dX12_lose_128 (hc := ac_180) (hlen := ln_180 _ _) (K := ?_)
      refine ev_aload_n (M := T12_lose) (pc := 129) 0 dX12_lose_129 (k := ?_)
      refine ev_getR (M := T12_lose) (pc := 130) (t := 181) (x := some (181, 0)) fl_X12_228 dX12_lose_130 (hx := ry_12_81 _ _) (K := ?_)
      refine ev_aload_n (M := T12_lose) (pc := 133) 0 dX12_lose_133 (k := ?_)
      refine ev_dup (M := T12_lose) (pc := 134) dX12_lose_134 (k := ?_)
      refine ev_getI (M := T12_lose) (pc := 135) (x := h2.1 12 0 79) fl_X12_425 dX12_lose_135 (K := ?_)
      refine ev_dup_x1 (M := T12_lose) (pc := 138) dX12_lose_138 (k := ?_)
      refine ev_iconst (M := T12_lose) (pc := 139) dX12_lose_139 (k := ?_)
      refine ev_iadd (M := T12_lose) (pc := 140) dX12_lose_140 (k := ?_)
      obtain ⟨h3, eh3, H4⟩ := lt_e H3
      clear H3
      refine ev_putI (M := T12_lose) (pc := 141) j_ok1 fl_X12_425 eh3 dX12_lose_141 (K := ?_)
      refine ev_iload_n (M := T12_lose) (pc := 144) 2 dX12_lose_144 (k := ?_)
      obtain ⟨⟨hi0, hi1⟩, H5⟩ := g_e H4
      clear H4
      obtain ⟨h4, eh4, H6⟩ := lt_e H5
      clear H5
      refine ev_iastore (M := T12_lose) (pc := 145) (k := 181) j_ok1 hi0 hi1 eh4 dX12_lose_145 (hc := ac_181) (hlen := ln_181 _ _) (K := ?_)
      refine ev_aload_n (M := T12_lose) (pc := 146) 0 dX12_lose_146 (k := ?_)
      refine ev_getI (M := T12_lose) (pc := 147) (x := h4.1 12 0 79) fl_X12_425 dX12_lose_147 (K := ?_)
      cases H6
      exact ev_ireturn (M := T12_lose) (pc := 150) dX12_lose_150
    · replace H1 := if_pe hc H1
      refine ev_bipush (M := T12_lose) (pc := 116) dX12_lose_116 (k := ?_)
      cases H1
      exact ev_ireturn (M := T12_lose) (pc := 118) dX12_lose_118
  · replace H := if_ne hc H
    refine ev_aload_n (M := T12_lose) (pc := 49) 0 dX12_lose_49 (k := ?_)
    refine ev_getR (M := T12_lose) (pc := 50) (t := 181) (x := some (181, 0)) fl_X12_228 dX12_lose_50 (hx := ry_12_81 _ _) (K := ?_)
    refine ev_iload (M := T12_lose) (pc := 53) 4 dX12_lose_53 (k := ?_)
    obtain ⟨⟨hi0, hi1⟩, H1⟩ := g_e H
    clear H
    refine ev_iaload (M := T12_lose) (pc := 55) (k := 181) hi0 hi1 dX12_lose_55 (hc := ac_181) (hlen := ln_181 _ _) (K := ?_)
    refine ev_aload_n (M := T12_lose) (pc := 56) 0 dX12_lose_56 (k := ?_)
    refine ev_getI (M := T12_lose) (pc := 57) (x := h.1 12 0 2) fl_X12_285 dX12_lose_57 (K := ?_)
    refine ev_icmpge (M := T12_lose) (pc := 60) 66 dX12_lose_60 (kt := fun hc => ?_) (kf := fun hc => ?_)
    · replace H1 := if_pe hc H1
      refine ev_aload_n (M := T12_lose) (pc := 66) 0 dX12_lose_66 (k := ?_)
      refine ev_getR (M := T12_lose) (pc := 67) (t := 180) (x := some (180, 0)) fl_X12_225 dX12_lose_67 (hx := ry_12_80 _ _) (K := ?_)
      refine ev_iload_n (M := T12_lose) (pc := 70) 3 dX12_lose_70 (k := ?_)
      refine ev_aload_n (M := T12_lose) (pc := 71) 0 dX12_lose_71 (k := ?_)
      refine ev_getR (M := T12_lose) (pc := 72) (t := 180) (x := some (180, 0)) fl_X12_225 dX12_lose_72 (hx := ry_12_80 _ _) (K := ?_)
      refine ev_iload (M := T12_lose) (pc := 75) 4 dX12_lose_75 (k := ?_)
      obtain ⟨⟨hi0, hi1⟩, H2⟩ := g_e H1
      clear H1
      refine ev_iaload (M := T12_lose) (pc := 77) (k := 180) hi0 hi1 dX12_lose_77 (hc := ac_180) (hlen := ln_180 _ _) (K := ?_)
      obtain ⟨⟨hi0, hi1⟩, H3⟩ := g_e H2
      clear H2
      obtain ⟨h5, eh5, H4⟩ := lt_e H3
      clear H3
      refine ev_iastore (M := T12_lose) (pc := 78) (k := 180) j_ok1 hi0 hi1 eh5 dX12_lose_78 (hc := ac_180) (hlen := ln_180 _ _) (K := ?_)
      refine ev_aload_n (M := T12_lose) (pc := 79) 0 dX12_lose_79 (k := ?_)
      refine ev_getR (M := T12_lose) (pc := 80) (t := 181) (x := some (181, 0)) fl_X12_228 dX12_lose_80 (hx := ry_12_81 _ _) (K := ?_)
      refine ev_iload_n (M := T12_lose) (pc := 83) 3 dX12_lose_83 (k := ?_)
      refine ev_iinc (M := T12_lose) (pc := 84) 3 [(3, .inl (w32 (l3 + 1))), (0, .inr (.inr (some (12, 0)))), (1, .inl (l1)), (2, .inl (l2)), (4, .inl (l4))] dX12_lose_84 (k := ?_)
      refine ev_aload_n (M := T12_lose) (pc := 87) 1 dX12_lose_87 (k := ?_)
      refine ev_getR (M := T12_lose) (pc := 88) (t := 181) (x := some (181, 0)) fl_X12_228 dX12_lose_88 (hx := ry_12_81 _ _) (K := ?_)
      refine ev_iload (M := T12_lose) (pc := 91) 4 dX12_lose_91 (k := ?_)
      obtain ⟨⟨hi0, hi1⟩, H5⟩ := g_e H4
      clear H4
      refine ev_iaload (M := T12_lose) (pc := 93) (k := 181) hi0 hi1 dX12_lose_93 (hc := ac_181) (hlen := ln_181 _ _) (K := ?_)
      obtain ⟨⟨hi0, hi1⟩, H6⟩ := g_e H5
      clear H5
      obtain ⟨h6, eh6, H7⟩ := lt_e H6
      clear H6
      refine ev_iastore (M := T12_lose) (pc := 94) (k := 181) j_ok1 hi0 hi1 eh6 dX12_lose_94 (hc := ac_181) (hlen := ln_181 _ _) (K := ?_)
      refine ev_lv [1, 2, 3, 0, 4] [(0, .inr (.inr (some (12, 0)))), (1, .inl (l1)), (2, .inl (l2)), (3, .inl (w32 (l3 + 1))), (4, .inl (l4))] (k := ?_)
      exact E12_lose_95 k40 hk40 l1 l2 (w32 (l3 + 1)) l4 h6 _ H7
    · replace H1 := if_ne hc H1
      refine ev_goto (M := T12_lose) (pc := 63) 95 dX12_lose_63 (k := ?_)
      exact E12_lose_95 k40 hk40 l1 l2 l3 l4 h _ H1
theorem E12_lose_40 (n : Nat) : ∀ (l1 : Int) (l2 : Int) (l3 : Int) (l4 : Int) (h : JM) (res : (Int × JM)), F12_lose_40 n l1 l2 l3 l4 h = some res → Ev j_W1 2 0 0 T12_lose 40 [(0, .inr (.inr (some (12, 0)))), (1, .inl (l1)), (2, .inl (l2)), (3, .inl (l3)), (4, .inl (l4))] [] h (some (.inl res.1)) res.2 := by
  induction n with
  | zero =>
    intro l1 l2 l3 l4 h res H
    cases H
  | succ n ih =>
    intro l1 l2 l3 l4 h res H
    exact E12_lose_40b (F12_lose_40 n) ih l1 l2 l3 l4 h res H
set_option maxRecDepth 100000 in
set_option maxHeartbeats 4000000 in
theorem E12_lose_32 (h : JM) (res : (Int × JM)) (H : F12_lose_32 h = some res) : Ev j_W1 2 0 0 T12_lose 32 [] [] h (some (.inl res.1)) res.2 := by
  unfold F12_lose_32 at H
  refine ev_bipush (M := T12_lose) (pc := 32) dX12_lose_32 (k := ?_)
  cases H
  exact ev_ireturn (M := T12_lose) (pc := 34) dX12_lose_34
set_option maxRecDepth 100000 in
set_option maxHeartbeats 4000000 in
theorem C12_lose {l1 : Int} {l2 : Int} {h : JM} {res : (Int × JM)} (H : F12_lose l1 l2 h = some res) : Cn j_W1 2 0 0 yX12_lose cX12_lose 5 (some .int) [.inr (.inr (some (12, 0))), .inl (l1), .inl (l2)] h (some (.inl res.1)) res.2 := by
  refine Cn.by (own := RX12) (b := false) [(0, .inr (.inr (some (12, 0)))), (1, .inl (l1)), (2, .inl (l2))] rfl (fun z => by cases z) (by decide +kernel) (K := ?_)
  unfold F12_lose at H
  refine ev_iload_n (M := T12_lose) (pc := 0) 1 dX12_lose_0 (k := ?_)
  refine ev_i2l (M := T12_lose) (pc := 1) dX12_lose_1 (k := ?_)
  refine ev_lconst (M := T12_lose) (pc := 2) (v := 0) dX12_lose_2 (k := ?_)
  refine ev_lconst (M := T12_lose) (pc := 3) (v := 1) dX12_lose_3 (k := ?_)
  obtain ⟨q7, hq, H1⟩ := bd_e H
  clear H
  refine ev_callS (M := T12_lose) (pc := 4) (mc := 0) (ms := 0) (st := []) (C12_in hq) md_X12_in ss_X12_in ml_X12_268 dX12_lose_4 _ (by decide) (K := ?_)
  refine ev_ifeq (M := T12_lose) (pc := 7) 32 dX12_lose_7 (kt := fun hc => ?_) (kf := fun hc => ?_)
  · replace H1 := if_pe hc H1
    refine ev_lv [] [] (k := ?_)
    exact E12_lose_32 q7.2 _ H1
  · replace H1 := if_ne hc H1
    refine ev_iload_n (M := T12_lose) (pc := 10) 2 dX12_lose_10 (k := ?_)
    refine ev_i2l (M := T12_lose) (pc := 11) dX12_lose_11 (k := ?_)
    refine ev_aload_n (M := T12_lose) (pc := 12) 0 dX12_lose_12 (k := ?_)
    refine ev_getI (M := T12_lose) (pc := 13) (x := q7.2.1 12 0 2) fl_X12_285 dX12_lose_13 (K := ?_)
    refine ev_i2l (M := T12_lose) (pc := 16) dX12_lose_16 (k := ?_)
    refine ev_aload_n (M := T12_lose) (pc := 17) 0 dX12_lose_17 (k := ?_)
    refine ev_getI (M := T12_lose) (pc := 18) (x := q7.2.1 12 0 2) fl_X12_285 dX12_lose_18 (K := ?_)
    refine ev_i2l (M := T12_lose) (pc := 21) dX12_lose_21 (k := ?_)
    refine ev_ldc2 (M := T12_lose) (pc := 22) (n := 100000) cl_X12_418 dX12_lose_22 (hv := cw_X12_418) (k := ?_)
    refine ev_ladd (M := T12_lose) (pc := 25) dX12_lose_25 (k := ?_)
    obtain ⟨q8, hq, H2⟩ := bd_e H1
    clear H1
    refine ev_callS (M := T12_lose) (pc := 26) (mc := 0) (ms := 0) (st := []) (C12_in hq) md_X12_in ss_X12_in ml_X12_268 dX12_lose_26 _ (by decide) (K := ?_)
    refine ev_ifne (M := T12_lose) (pc := 29) 35 dX12_lose_29 (kt := fun hc => ?_) (kf := fun hc => ?_)
    · replace H2 := if_ne hc H2
      refine ev_iconst (M := T12_lose) (pc := 35) dX12_lose_35 (k := ?_)
      refine ev_istore_n (M := T12_lose) (pc := 36) [(3, .inl (0)), (0, .inr (.inr (some (12, 0)))), (1, .inl (l1)), (2, .inl (l2))] dX12_lose_36 (k := ?_)
      refine ev_iconst (M := T12_lose) (pc := 37) dX12_lose_37 (k := ?_)
      refine ev_istore (M := T12_lose) (pc := 38) [(4, .inl (0)), (3, .inl (0)), (0, .inr (.inr (some (12, 0)))), (1, .inl (l1)), (2, .inl (l2))] dX12_lose_38 (k := ?_)
      refine ev_lv [2, 3, 4, 1, 0] [(0, .inr (.inr (some (12, 0)))), (1, .inl (l1)), (2, .inl (l2)), (3, .inl (0)), (4, .inl (0))] (k := ?_)
      exact E12_lose_40 j_fu l1 l2 0 0 q8.2 _ H2
    · replace H2 := if_pe hc H2
      refine ev_lv [] [] (k := ?_)
      exact E12_lose_32 q8.2 _ H2
-- X12_member
abbrev T12_member : JT := (RX12, cX12_member, 5, some .int, false)
set_option maxRecDepth 100000 in
set_option maxHeartbeats 4000000 in
theorem E12_member_34b (k34 : Int → Int → Int → JM → Option (Int × JM)) (hk34 : ∀ (l2 : Int) (l3 : Int) (l4 : Int) (h : JM) (res : (Int × JM)), k34 l2 l3 l4 h = some res → Ev j_W1 3 0 0 T12_member 34 [(0, .inr (.inr (some (12, 0)))), (2, .inl (l2)), (3, .inl (l3)), (4, .inl (l4))] [] h (some (.inl res.1)) res.2) (l2 : Int) (l3 : Int) (l4 : Int) (h : JM) (res : (Int × JM)) (H : F12_member_34b k34 l2 l3 l4 h = some res) : Ev j_W1 3 0 0 T12_member 34 [(0, .inr (.inr (some (12, 0)))), (2, .inl (l2)), (3, .inl (l3)), (4, .inl (l4))] [] h (some (.inl res.1)) res.2 := by
  unfold F12_member_34b at H
  refine ev_iload (M := T12_member) (pc := 34) 3 dX12_member_34 (k := ?_)
  refine ev_aload_n (M := T12_member) (pc := 36) 0 dX12_member_36 (k := ?_)
  refine ev_getR (M := T12_member) (pc := 37) (t := 150) (x := some (150, 0)) fl_X12_146 dX12_member_37 (hx := ry_12_50 _ _) (K := ?_)
  refine ev_iload_n (M := T12_member) (pc := 40) 2 dX12_member_40 (k := ?_)
  obtain ⟨⟨hi0, hi1⟩, H1⟩ := g_e H
  clear H
  refine ev_iaload (M := T12_member) (pc := 41) (k := 150) hi0 hi1 dX12_member_41 (hc := ac_150) (hlen := ln_150 _ _) (K := ?_)
  refine ev_icmpge (M := T12_member) (pc := 42) 70 dX12_member_42 (kt := fun hc => ?_) (kf := fun hc => ?_)
  · replace H1 := if_pe hc H1
    refine ev_aload_n (M := T12_member) (pc := 70) 0 dX12_member_70 (k := ?_)
    refine ev_getR (M := T12_member) (pc := 71) (t := 149) (x := some (149, 0)) fl_X12_143 dX12_member_71 (hx := ry_12_49 _ _) (K := ?_)
    refine ev_bipush (M := T12_member) (pc := 74) dX12_member_74 (k := ?_)
    refine ev_iload_n (M := T12_member) (pc := 76) 2 dX12_member_76 (k := ?_)
    refine ev_imul (M := T12_member) (pc := 77) dX12_member_77 (k := ?_)
    refine ev_aload_n (M := T12_member) (pc := 78) 0 dX12_member_78 (k := ?_)
    refine ev_getR (M := T12_member) (pc := 79) (t := 150) (x := some (150, 0)) fl_X12_146 dX12_member_79 (hx := ry_12_50 _ _) (K := ?_)
    refine ev_iload_n (M := T12_member) (pc := 82) 2 dX12_member_82 (k := ?_)
    refine ev_dup2 (M := T12_member) (pc := 83) dX12_member_83 (k := ?_)
    obtain ⟨⟨hi0, hi1⟩, H2⟩ := g_e H1
    clear H1
    refine ev_iaload (M := T12_member) (pc := 84) (k := 150) hi0 hi1 dX12_member_84 (hc := ac_150) (hlen := ln_150 _ _) (K := ?_)
    refine ev_dup_x2 (M := T12_member) (pc := 85) dX12_member_85 (k := ?_)
    refine ev_iconst (M := T12_member) (pc := 86) dX12_member_86 (k := ?_)
    refine ev_iadd (M := T12_member) (pc := 87) dX12_member_87 (k := ?_)
    obtain ⟨⟨hi0, hi1⟩, H3⟩ := g_e H2
    clear H2
    obtain ⟨h1, eh1, H4⟩ := lt_e H3
    clear H3
    refine ev_iastore (M := T12_member) (pc := 88) (k := 150) j_ok1 hi0 hi1 eh1 dX12_member_88 (hc := ac_150) (hlen := ln_150 _ _) (K := ?_)
    refine ev_iadd (M := T12_member) (pc := 89) dX12_member_89 (k := ?_)
    refine ev_iload_n (M := T12_member) (pc := 90) 1 dX12_member_90 (k := ?_)
    obtain ⟨⟨hi0, hi1⟩, H5⟩ := g_e H4
    clear H4
    obtain ⟨h2, eh2, H6⟩ := lt_e H5
    clear H5
    refine ev_iastore (M := T12_member) (pc := 91) (k := 149) j_ok1 hi0 hi1 eh2 dX12_member_91 (hc := ac_149) (hlen := ln_149 _ _) (K := ?_)
    refine ev_aload_n (M := T12_member) (pc := 92) 0 dX12_member_92 (k := ?_)
    refine ev_getR (M := T12_member) (pc := 93) (t := 150) (x := some (150, 0)) fl_X12_146 dX12_member_93 (hx := ry_12_50 _ _) (K := ?_)
    refine ev_iload_n (M := T12_member) (pc := 96) 2 dX12_member_96 (k := ?_)
    obtain ⟨⟨hi0, hi1⟩, H7⟩ := g_e H6
    clear H6
    refine ev_iaload (M := T12_member) (pc := 97) (k := 150) hi0 hi1 dX12_member_97 (hc := ac_150) (hlen := ln_150 _ _) (K := ?_)
    cases H7
    exact ev_ireturn (M := T12_member) (pc := 98) dX12_member_98
  · replace H1 := if_ne hc H1
    refine ev_aload_n (M := T12_member) (pc := 45) 0 dX12_member_45 (k := ?_)
    refine ev_getR (M := T12_member) (pc := 46) (t := 149) (x := some (149, 0)) fl_X12_143 dX12_member_46 (hx := ry_12_49 _ _) (K := ?_)
    refine ev_bipush (M := T12_member) (pc := 49) dX12_member_49 (k := ?_)
    refine ev_iload_n (M := T12_member) (pc := 51) 2 dX12_member_51 (k := ?_)
    refine ev_imul (M := T12_member) (pc := 52) dX12_member_52 (k := ?_)
    refine ev_iload (M := T12_member) (pc := 53) 3 dX12_member_53 (k := ?_)
    refine ev_iadd (M := T12_member) (pc := 55) dX12_member_55 (k := ?_)
    obtain ⟨⟨hi0, hi1⟩, H2⟩ := g_e H1
    clear H1
    refine ev_iaload (M := T12_member) (pc := 56) (k := 149) hi0 hi1 dX12_member_56 (hc := ac_149) (hlen := ln_149 _ _) (K := ?_)
    refine ev_iload_n (M := T12_member) (pc := 57) 1 dX12_member_57 (k := ?_)
    refine ev_icmpne (M := T12_member) (pc := 58) 64 dX12_member_58 (kt := fun hc => ?_) (kf := fun hc => ?_)
    · replace H2 := if_ne hc H2
      refine ev_iinc (M := T12_member) (pc := 64) 3 [(4, .inl (w32 (l4 + 1))), (0, .inr (.inr (some (12, 0)))), (2, .inl (l2)), (3, .inl (l3))] dX12_member_64 (k := ?_)
      refine ev_goto (M := T12_member) (pc := 67) 34 dX12_member_67 (k := ?_)
      refine ev_lv [1, 2, 3, 0] [(0, .inr (.inr (some (12, 0)))), (2, .inl (l2)), (3, .inl (l3)), (4, .inl (w32 (l4 + 1)))] (k := ?_)
      exact hk34 l2 l3 (w32 (l4 + 1)) h _ H2
    · replace H2 := if_pe hc H2
      refine ev_bipush (M := T12_member) (pc := 61) dX12_member_61 (k := ?_)
      cases H2
      exact ev_ireturn (M := T12_member) (pc := 63) dX12_member_63
theorem E12_member_34 (n : Nat) : ∀ (l2 : Int) (l3 : Int) (l4 : Int) (h : JM) (res : (Int × JM)), F12_member_34 n l2 l3 l4 h = some res → Ev j_W1 3 0 0 T12_member 34 [(0, .inr (.inr (some (12, 0)))), (2, .inl (l2)), (3, .inl (l3)), (4, .inl (l4))] [] h (some (.inl res.1)) res.2 := by
  induction n with
  | zero =>
    intro l2 l3 l4 h res H
    cases H
  | succ n ih =>
    intro l2 l3 l4 h res H
    exact E12_member_34b (F12_member_34 n) ih l2 l3 l4 h res H
set_option maxRecDepth 100000 in
set_option maxHeartbeats 4000000 in
theorem E12_member_19 (h : JM) (res : (Int × JM)) (H : F12_member_19 h = some res) : Ev j_W1 3 0 0 T12_member 19 [] [] h (some (.inl res.1)) res.2 := by
  unfold F12_member_19 at H
  refine ev_bipush (M := T12_member) (pc := 19) dX12_member_19 (k := ?_)
  cases H
  exact ev_ireturn (M := T12_member) (pc := 21) dX12_member_21
set_option maxRecDepth 100000 in
set_option maxHeartbeats 4000000 in
theorem C12_member {l1 : Int} {l2 : Int} {h : JM} {res : (Int × JM)} (H : F12_member l1 l2 h = some res) : Cn j_W1 3 0 0 yX12_member cX12_member 5 (some .int) [.inr (.inr (some (12, 0))), .inl (l1), .inl (l2)] h (some (.inl res.1)) res.2 := by
  refine Cn.by (own := RX12) (b := false) [(0, .inr (.inr (some (12, 0)))), (1, .inl (l1)), (2, .inl (l2))] rfl (fun z => by cases z) (by decide +kernel) (K := ?_)
  unfold F12_member at H
  refine ev_iload_n (M := T12_member) (pc := 0) 1 dX12_member_0 (k := ?_)
  refine ev_i2l (M := T12_member) (pc := 1) dX12_member_1 (k := ?_)
  refine ev_lconst (M := T12_member) (pc := 2) (v := 0) dX12_member_2 (k := ?_)
  refine ev_ldc2 (M := T12_member) (pc := 3) (n := 2) cl_X12_281 dX12_member_3 (hv := cw_X12_281) (k := ?_)
  obtain ⟨q3, hq, H1⟩ := bd_e H
  clear H
  refine ev_callS (M := T12_member) (pc := 6) (mc := 0) (ms := 0) (st := []) (C12_in hq) md_X12_in ss_X12_in ml_X12_268 dX12_member_6 _ (by decide) (K := ?_)
  refine ev_ifeq (M := T12_member) (pc := 9) 19 dX12_member_9 (kt := fun hc => ?_) (kf := fun hc => ?_)
  · replace H1 := if_pe hc H1
    refine ev_lv [] [] (k := ?_)
    exact E12_member_19 q3.2 _ H1
  · replace H1 := if_ne hc H1
    refine ev_iload_n (M := T12_member) (pc := 12) 2 dX12_member_12 (k := ?_)
    obtain ⟨q4, hq, H2⟩ := bd_e H1
    clear H1
    refine ev_callS (M := T12_member) (pc := 13) (mc := 0) (ms := 0) (st := []) (C12_isLine hq) md_X12_isLine ss_X12_isLine ml_X12_288 dX12_member_13 _ (by decide) (K := ?_)
    refine ev_ifne (M := T12_member) (pc := 16) 22 dX12_member_16 (kt := fun hc => ?_) (kf := fun hc => ?_)
    · replace H2 := if_ne hc H2
      refine ev_iconst (M := T12_member) (pc := 22) dX12_member_22 (k := ?_)
      refine ev_iload_n (M := T12_member) (pc := 23) 2 dX12_member_23 (k := ?_)
      refine ev_bipush (M := T12_member) (pc := 24) dX12_member_24 (k := ?_)
      refine ev_idiv (M := T12_member) (pc := 26) dX12_member_26 (by decide) (k := ?_)
      refine ev_imul (M := T12_member) (pc := 27) dX12_member_27 (k := ?_)
      refine ev_iload_n (M := T12_member) (pc := 28) 1 dX12_member_28 (k := ?_)
      refine ev_iadd (M := T12_member) (pc := 29) dX12_member_29 (k := ?_)
      obtain ⟨x5, ex5, H3⟩ := lt_e H2
      clear H2
      refine ev_topI ex5 ?_
      refine ev_istore_n (M := T12_member) (pc := 30) [(3, .inl (x5)), (0, .inr (.inr (some (12, 0)))), (1, .inl (l1)), (2, .inl (l2))] dX12_member_30 (k := ?_)
      refine ev_iconst (M := T12_member) (pc := 31) dX12_member_31 (k := ?_)
      refine ev_istore (M := T12_member) (pc := 32) [(4, .inl (0)), (3, .inl (x5)), (0, .inr (.inr (some (12, 0)))), (1, .inl (l1)), (2, .inl (l2))] dX12_member_32 (k := ?_)
      refine ev_lv [2, 4, 1, 0] [(0, .inr (.inr (some (12, 0)))), (2, .inl (l2)), (3, .inl (x5)), (4, .inl (0))] (k := ?_)
      exact E12_member_34 j_fu l2 x5 0 q4.2 _ H3
    · replace H2 := if_pe hc H2
      refine ev_lv [] [] (k := ?_)
      exact E12_member_19 q4.2 _ H2
-- X12_modulo
abbrev T12_modulo : JT := (RX12, cX12_modulo, 1, some .int, false)
set_option maxRecDepth 100000 in
set_option maxHeartbeats 4000000 in
theorem C12_modulo {l0 : Int} {h : JM} {res : (Int × JM)} (H : F12_modulo l0 h = some res) : Cn j_W1 1 0 0 yX12_modulo cX12_modulo 1 (some .int) [.inl (l0)] h (some (.inl res.1)) res.2 := by
  refine Cn.by (own := RX12) (b := false) [(0, .inl (l0))] rfl (fun z => by cases z) (by decide +kernel) (K := ?_)
  unfold F12_modulo at H
  refine ev_iload_n (M := T12_modulo) (pc := 0) 0 dX12_modulo_0 (k := ?_)
  refine ev_sipush (M := T12_modulo) (pc := 1) dX12_modulo_1 (k := ?_)
  refine ev_irem (M := T12_modulo) (pc := 4) dX12_modulo_4 (by decide) (k := ?_)
  refine ev_sipush (M := T12_modulo) (pc := 5) dX12_modulo_5 (k := ?_)
  refine ev_iadd (M := T12_modulo) (pc := 8) dX12_modulo_8 (k := ?_)
  refine ev_sipush (M := T12_modulo) (pc := 9) dX12_modulo_9 (k := ?_)
  refine ev_irem (M := T12_modulo) (pc := 12) dX12_modulo_12 (by decide) (k := ?_)
  cases H
  exact ev_ireturn (M := T12_modulo) (pc := 13) dX12_modulo_13
-- X12_number
abbrev T12_number : JT := (RX12, cX12_number, 4, none, false)
set_option maxRecDepth 100000 in
set_option maxHeartbeats 4000000 in
theorem E12_number_2b (k2 : Int → Int → Int → JM → Option JM) (hk2 : ∀ (l1 : Int) (l2 : Int) (l3 : Int) (h : JM) (res : JM), k2 l1 l2 l3 h = some res → Ev j_W1 1 0 0 T12_number 2 [(0, .inr (.inr (some (12, 0)))), (1, .inl (l1)), (2, .inl (l2)), (3, .inl (l3))] [] h none res) (l1 : Int) (l2 : Int) (l3 : Int) (h : JM) (res : JM) (H : F12_number_2b k2 l1 l2 l3 h = some res) : Ev j_W1 1 0 0 T12_number 2 [(0, .inr (.inr (some (12, 0)))), (1, .inl (l1)), (2, .inl (l2)), (3, .inl (l3))] [] h none res := by
  unfold F12_number_2b at H
  refine ev_iload_n (M := T12_number) (pc := 2) 3 dX12_number_2 (k := ?_)
  refine ev_iload_n (M := T12_number) (pc := 3) 2 dX12_number_3 (k := ?_)
  refine ev_icmpge (M := T12_number) (pc := 4) 34 dX12_number_4 (kt := fun hc => ?_) (kf := fun hc => ?_)
  · replace H := if_pe hc H
    cases H
    exact ev_return (M := T12_number) (pc := 34) dX12_number_34
  · replace H := if_ne hc H
    refine ev_aload_n (M := T12_number) (pc := 7) 0 dX12_number_7 (k := ?_)
    refine ev_getR (M := T12_number) (pc := 8) (t := 182) (x := some (182, 0)) fl_X12_231 dX12_number_8 (hx := ry_12_82 _ _) (K := ?_)
    refine ev_aload_n (M := T12_number) (pc := 11) 0 dX12_number_11 (k := ?_)
    refine ev_dup (M := T12_number) (pc := 12) dX12_number_12 (k := ?_)
    refine ev_getI (M := T12_number) (pc := 13) (x := h.1 12 0 83) fl_X12_428 dX12_number_13 (K := ?_)
    refine ev_dup_x1 (M := T12_number) (pc := 16) dX12_number_16 (k := ?_)
    refine ev_iconst (M := T12_number) (pc := 17) dX12_number_17 (k := ?_)
    refine ev_iadd (M := T12_number) (pc := 18) dX12_number_18 (k := ?_)
    obtain ⟨h1, eh1, H1⟩ := lt_e H
    clear H
    refine ev_putI (M := T12_number) (pc := 19) j_ok1 fl_X12_428 eh1 dX12_number_19 (K := ?_)
    refine ev_iload_n (M := T12_number) (pc := 22) 1 dX12_number_22 (k := ?_)
    refine ev_iload_n (M := T12_number) (pc := 23) 3 dX12_number_23 (k := ?_)
    refine ev_ishr (M := T12_number) (pc := 24) dX12_number_24 (k := ?_)
    refine ev_iconst (M := T12_number) (pc := 25) dX12_number_25 (k := ?_)
    refine ev_iand (M := T12_number) (pc := 26) dX12_number_26 (k := ?_)
    obtain ⟨⟨hi0, hi1⟩, H2⟩ := g_e H1
    clear H1
    obtain ⟨h2, eh2, H3⟩ := lt_e H2
    clear H2
    refine ev_iastore (M := T12_number) (pc := 27) (k := 182) j_ok1 hi0 hi1 eh2 dX12_number_27 (hc := ac_182) (hlen := ln_182 _ _) (K := ?_)
    refine ev_iinc (M := T12_number) (pc := 28) 3 [(3, .inl (w32 (l3 + 1))), (0, .inr (.inr (some (12, 0)))), (1, .inl (l1)), (2, .inl (l2))] dX12_number_28 (k := ?_)
    refine ev_goto (M := T12_number) (pc := 31) 2 dX12_number_31 (k := ?_)
    refine ev_lv [1, 2, 3, 0] [(0, .inr (.inr (some (12, 0)))), (1, .inl (l1)), (2, .inl (l2)), (3, .inl (w32 (l3 + 1)))] (k := ?_)
    exact hk2 l1 l2 (w32 (l3 + 1)) h2 _ H3
theorem E12_number_2 (n : Nat) : ∀ (l1 : Int) (l2 : Int) (l3 : Int) (h : JM) (res : JM), F12_number_2 n l1 l2 l3 h = some res → Ev j_W1 1 0 0 T12_number 2 [(0, .inr (.inr (some (12, 0)))), (1, .inl (l1)), (2, .inl (l2)), (3, .inl (l3))] [] h none res := by
  induction n with
  | zero =>
    intro l1 l2 l3 h res H
    cases H
  | succ n ih =>
    intro l1 l2 l3 h res H
    exact E12_number_2b (F12_number_2 n) ih l1 l2 l3 h res H
set_option maxRecDepth 100000 in
set_option maxHeartbeats 4000000 in
theorem C12_number {l1 : Int} {l2 : Int} {h : JM} {res : JM} (H : F12_number l1 l2 h = some res) : Cn j_W1 1 0 0 yX12_number cX12_number 4 none [.inr (.inr (some (12, 0))), .inl (l1), .inl (l2)] h none res := by
  refine Cn.by (own := RX12) (b := false) [(0, .inr (.inr (some (12, 0)))), (1, .inl (l1)), (2, .inl (l2))] rfl (fun z => by cases z) (by decide +kernel) (K := ?_)
  unfold F12_number at H
  refine ev_iconst (M := T12_number) (pc := 0) dX12_number_0 (k := ?_)
  refine ev_istore_n (M := T12_number) (pc := 1) [(3, .inl (0)), (0, .inr (.inr (some (12, 0)))), (1, .inl (l1)), (2, .inl (l2))] dX12_number_1 (k := ?_)
  refine ev_lv [1, 2, 3, 0] [(0, .inr (.inr (some (12, 0)))), (1, .inl (l1)), (2, .inl (l2)), (3, .inl (0))] (k := ?_)
  exact E12_number_2 j_fu l1 l2 0 h _ H
