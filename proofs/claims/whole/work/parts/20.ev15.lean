-- X12_comes
abbrev T12_comes : JT := (RX12, cX12_comes, 8, none, false)
set_option maxRecDepth 100000 in
set_option maxHeartbeats 4000000 in
theorem E12_comes_224 (l4 : Int) (h : JM) (res : JM) (H : F12_comes_224 l4 h = some res) : Ev j_W1 90 0 0 T12_comes 224 [(0, .inr (.inr (some (12, 0)))), (4, .inl (l4))] [] h none res := by
  unfold F12_comes_224 at H
  refine ev_aload_n 0 dX12_comes_224 (k := ?_)
  refine ev_iload 1 dX12_comes_225 (k := ?_)
  obtain ⟨h1, hq, H⟩ := bd_e H
  refine ev_callV (mc := 0) (ms := 0) (st := []) (C12_answered hq) md_X12_answered im_X12_answered se_X12_answered ml_X12_320 dX12_comes_227 _ (by decide) (K := ?_)
  refine ev_goto 330 dX12_comes_230 (k := ?_)
  cases H
  exact ev_return dX12_comes_330
set_option maxRecDepth 100000 in
set_option maxHeartbeats 4000000 in
theorem E12_comes_148 (l1 : Int) (l3 : Int) (h : JM) (res : JM) (H : F12_comes_148 l1 l3 h = some res) : Ev j_W1 90 0 0 T12_comes 148 [(0, .inr (.inr (some (12, 0)))), (1, .inl (l1)), (3, .inl (l3))] [] h none res := by
  unfold F12_comes_148 at H
  refine ev_aload_n 0 dX12_comes_148 (k := ?_)
  refine ev_getR (t := 154) (x := some (154, 0)) fl_X12_158 dX12_comes_149 (hx := ry_12_54 _ _) (K := ?_)
  refine ev_iload_n 2 dX12_comes_152 (k := ?_)
  obtain ⟨⟨hi0, hi1⟩, H⟩ := g_e H
  refine ev_iaload (k := 154) hi0 hi1 dX12_comes_153 (hc := ac_154) (hlen := ln_154 _ _) (K := ?_)
  refine ev_ifne 330 dX12_comes_154 (kt := fun hc => ?_) (kf := fun hc => ?_)
  · rw [if_neg hc] at H
    cases H
    exact ev_return dX12_comes_330
  · rw [if_pos hc] at H
    refine ev_aload_n 0 dX12_comes_157 (k := ?_)
    refine ev_iload_n 1 dX12_comes_158 (k := ?_)
    obtain ⟨h2, hq, H⟩ := bd_e H
    refine ev_callV (mc := 0) (ms := 0) (st := []) (C12_incoming hq) md_X12_incoming im_X12_incoming se_X12_incoming ml_X12_415 dX12_comes_159 _ (by decide) (K := ?_)
    refine ev_goto 330 dX12_comes_162 (k := ?_)
    cases H
    exact ev_return dX12_comes_330
set_option maxRecDepth 100000 in
set_option maxHeartbeats 4000000 in
theorem E12_comes_44 (l1 : Int) (l3 : Int) (l4 : Int) (s0 : Int) (h : JM) (res : JM) (H : F12_comes_44 l1 l3 l4 s0 h = some res) : Ev j_W1 90 0 0 T12_comes 44 [(0, .inr (.inr (some (12, 0)))), (1, .inl (l1)), (3, .inl (l3)), (4, .inl (l4))] [.inl (s0)] h none res := by
  unfold F12_comes_44 at H
  refine ev_istore [(5, .inl (s0)), (0, .inr (.inr (some (12, 0)))), (1, .inl (l1)), (3, .inl (l3)), (4, .inl (l4))] dX12_comes_44 (k := ?_)
  refine ev_aload_n 1 dX12_comes_46 (k := ?_)
  refine ev_getR (t := 168) (x := some (168, 0)) fl_X12_197 dX12_comes_47 (hx := ry_12_68 _ _) (K := ?_)
  refine ev_iconst dX12_comes_50 (k := ?_)
  obtain ⟨⟨hi0, hi1⟩, H⟩ := g_e H
  refine ev_iaload (k := 168) hi0 hi1 dX12_comes_51 (hc := ac_168) (hlen := ln_168 _ _) (K := ?_)
  by_cases hs0 : h.1 168 0 1 = 1
  · rw [if_pos hs0] at H
    refine ev_tableIn (off := 32) 84 dX12_comes_52 (by omega) (by omega) (by rw [hs0]; rfl) (k := ?_)
    refine ev_iload 0 dX12_comes_84 (k := ?_)
    refine ev_ifeq 148 dX12_comes_86 (kt := fun hc => ?_) (kf := fun hc => ?_)
    · rw [if_pos hc] at H
      refine ev_lv [1, 2, 3] [(0, .inr (.inr (some (12, 0)))), (1, .inl (l1)), (3, .inl (l3))] (k := ?_)
      exact E12_comes_148 l1 l3 h _ H
    · rw [if_neg hc] at H
      refine ev_aload_n 1 dX12_comes_89 (k := ?_)
      refine ev_getR (t := 133) (x := some (133, 0)) fl_X12_95 dX12_comes_90 (hx := ry_12_33 _ _) (K := ?_)
      refine ev_iload 4 dX12_comes_93 (k := ?_)
      obtain ⟨⟨hi0, hi1⟩, H⟩ := g_e H
      refine ev_iaload (k := 133) hi0 hi1 dX12_comes_95 (hc := ac_133) (hlen := ln_133 _ _) (K := ?_)
      refine ev_iconst dX12_comes_96 (k := ?_)
      refine ev_icmpne 148 dX12_comes_97 (kt := fun hc => ?_) (kf := fun hc => ?_)
      · rw [if_neg hc] at H
        refine ev_lv [1, 2, 3] [(0, .inr (.inr (some (12, 0)))), (1, .inl (l1)), (3, .inl (l3))] (k := ?_)
        exact E12_comes_148 l1 l3 h _ H
      · rw [if_pos hc] at H
        refine ev_aload_n 1 dX12_comes_100 (k := ?_)
        refine ev_getR (t := 168) (x := some (168, 0)) fl_X12_197 dX12_comes_101 (hx := ry_12_68 _ _) (K := ?_)
        refine ev_iconst dX12_comes_104 (k := ?_)
        obtain ⟨⟨hi0, hi1⟩, H⟩ := g_e H
        refine ev_iaload (k := 168) hi0 hi1 dX12_comes_105 (hc := ac_168) (hlen := ln_168 _ _) (K := ?_)
        refine ev_iconst dX12_comes_106 (k := ?_)
        refine ev_irem dX12_comes_107 (by decide) (k := ?_)
        refine ev_iload_n 2 dX12_comes_108 (k := ?_)
        refine ev_icmpeq 148 dX12_comes_109 (kt := fun hc => ?_) (kf := fun hc => ?_)
        · rw [if_pos hc] at H
          refine ev_lv [1, 2, 3] [(0, .inr (.inr (some (12, 0)))), (1, .inl (l1)), (3, .inl (l3))] (k := ?_)
          exact E12_comes_148 l1 l3 h _ H
        · rw [if_neg hc] at H
          refine ev_aload_n 1 dX12_comes_112 (k := ?_)
          refine ev_getR (t := 154) (x := some (154, 0)) fl_X12_158 dX12_comes_113 (hx := ry_12_54 _ _) (K := ?_)
          refine ev_iload_n 3 dX12_comes_116 (k := ?_)
          refine ev_iconst dX12_comes_117 (k := ?_)
          obtain ⟨⟨hi0, hi1⟩, H⟩ := g_e H
          obtain ⟨h3, eh3, H⟩ := lt_e H
          refine ev_iastore (k := 154) j_ok1 hi0 hi1 eh3 dX12_comes_118 (hc := ac_154) (hlen := ln_154 _ _) (K := ?_)
          refine ev_aload_n 1 dX12_comes_119 (k := ?_)
          refine ev_getR (t := 155) (x := some (155, 0)) fl_X12_161 dX12_comes_120 (hx := ry_12_55 _ _) (K := ?_)
          refine ev_iload_n 3 dX12_comes_123 (k := ?_)
          refine ev_iconst dX12_comes_124 (k := ?_)
          obtain ⟨⟨hi0, hi1⟩, H⟩ := g_e H
          obtain ⟨h4, eh4, H⟩ := lt_e H
          refine ev_iastore (k := 155) j_ok1 hi0 hi1 eh4 dX12_comes_125 (hc := ac_155) (hlen := ln_155 _ _) (K := ?_)
          refine ev_aload_n 1 dX12_comes_126 (k := ?_)
          refine ev_getR (t := 137) (x := some (137, 0)) fl_X12_107 dX12_comes_127 (hx := ry_12_37 _ _) (K := ?_)
          refine ev_iload 4 dX12_comes_130 (k := ?_)
          refine ev_iconst dX12_comes_132 (k := ?_)
          obtain ⟨⟨hi0, hi1⟩, H⟩ := g_e H
          obtain ⟨h5, eh5, H⟩ := lt_e H
          refine ev_iastore (k := 137) j_ok1 hi0 hi1 eh5 dX12_comes_133 (hc := ac_137) (hlen := ln_137 _ _) (K := ?_)
          refine ev_aload_n 1 dX12_comes_134 (k := ?_)
          refine ev_iload 4 dX12_comes_135 (k := ?_)
          obtain ⟨h6, hq, H⟩ := bd_e H
          refine ev_callV (mc := 0) (ms := 0) (st := []) (C12_toFar hq) md_X12_toFar im_X12_toFar se_X12_toFar ml_X12_340 dX12_comes_137 _ (by decide) (K := ?_)
          refine ev_aload_n 1 dX12_comes_140 (k := ?_)
          refine ev_iload_n 2 dX12_comes_141 (k := ?_)
          obtain ⟨h7, hq, H⟩ := bd_e H
          refine ev_callV (mc := 0) (ms := 0) (st := []) (C12_incoming hq) md_X12_incoming im_X12_incoming se_X12_incoming ml_X12_415 dX12_comes_142 _ (by decide) (K := ?_)
          refine ev_goto 330 dX12_comes_145 (k := ?_)
          cases H
          exact ev_return dX12_comes_330
  · rw [if_neg hs0] at H
    by_cases hs1 : h.1 168 0 1 = 2
    · rw [if_pos hs1] at H
      refine ev_tableIn (off := 113) 165 dX12_comes_52 (by omega) (by omega) (by rw [hs1]; rfl) (k := ?_)
      refine ev_iload 0 dX12_comes_165 (k := ?_)
      refine ev_ifeq 330 dX12_comes_167 (kt := fun hc => ?_) (kf := fun hc => ?_)
      · rw [if_pos hc] at H
        cases H
        exact ev_return dX12_comes_330
      · rw [if_neg hc] at H
        refine ev_aload_n 1 dX12_comes_170 (k := ?_)
        refine ev_getR (t := 133) (x := some (133, 0)) fl_X12_95 dX12_comes_171 (hx := ry_12_33 _ _) (K := ?_)
        refine ev_iload 4 dX12_comes_174 (k := ?_)
        obtain ⟨⟨hi0, hi1⟩, H⟩ := g_e H
        refine ev_iaload (k := 133) hi0 hi1 dX12_comes_176 (hc := ac_133) (hlen := ln_133 _ _) (K := ?_)
        refine ev_iconst dX12_comes_177 (k := ?_)
        refine ev_icmpne 330 dX12_comes_178 (kt := fun hc => ?_) (kf := fun hc => ?_)
        · rw [if_neg hc] at H
          cases H
          exact ev_return dX12_comes_330
        · rw [if_pos hc] at H
          refine ev_aload_n 1 dX12_comes_181 (k := ?_)
          refine ev_iload 4 dX12_comes_182 (k := ?_)
          refine ev_iconst dX12_comes_184 (k := ?_)
          obtain ⟨h8, hq, H⟩ := bd_e H
          refine ev_callV (mc := 0) (ms := 0) (st := []) (C12_becomes hq) md_X12_becomes im_X12_becomes se_X12_becomes ml_X12_361 dX12_comes_185 _ (by decide) (K := ?_)
          refine ev_aload_n 1 dX12_comes_188 (k := ?_)
          refine ev_iload 4 dX12_comes_189 (k := ?_)
          obtain ⟨h9, hq, H⟩ := bd_e H
          refine ev_callV (mc := 0) (ms := 0) (st := []) (C12_acm hq) md_X12_acm im_X12_acm se_X12_acm ml_X12_364 dX12_comes_191 _ (by decide) (K := ?_)
          refine ev_goto 330 dX12_comes_194 (k := ?_)
          cases H
          exact ev_return dX12_comes_330
    · rw [if_neg hs1] at H
      by_cases hs2 : h.1 168 0 1 = 3
      · rw [if_pos hs2] at H
        refine ev_tableIn (off := 145) 197 dX12_comes_52 (by omega) (by omega) (by rw [hs2]; rfl) (k := ?_)
        refine ev_iload 0 dX12_comes_197 (k := ?_)
        refine ev_ifeq 330 dX12_comes_199 (kt := fun hc => ?_) (kf := fun hc => ?_)
        · rw [if_pos hc] at H
          cases H
          exact ev_return dX12_comes_330
        · rw [if_neg hc] at H
          refine ev_aload_n 1 dX12_comes_202 (k := ?_)
          refine ev_getR (t := 133) (x := some (133, 0)) fl_X12_95 dX12_comes_203 (hx := ry_12_33 _ _) (K := ?_)
          refine ev_iload 4 dX12_comes_206 (k := ?_)
          obtain ⟨⟨hi0, hi1⟩, H⟩ := g_e H
          refine ev_iaload (k := 133) hi0 hi1 dX12_comes_208 (hc := ac_133) (hlen := ln_133 _ _) (K := ?_)
          refine ev_iconst dX12_comes_209 (k := ?_)
          refine ev_icmpeq 224 dX12_comes_210 (kt := fun hc => ?_) (kf := fun hc => ?_)
          · rw [if_pos hc] at H
            refine ev_lv [1, 4] [(0, .inr (.inr (some (12, 0)))), (4, .inl (l4))] (k := ?_)
            exact E12_comes_224 l4 h _ H
          · rw [if_neg hc] at H
            refine ev_aload_n 1 dX12_comes_213 (k := ?_)
            refine ev_getR (t := 133) (x := some (133, 0)) fl_X12_95 dX12_comes_214 (hx := ry_12_33 _ _) (K := ?_)
            refine ev_iload 4 dX12_comes_217 (k := ?_)
            obtain ⟨⟨hi0, hi1⟩, H⟩ := g_e H
            refine ev_iaload (k := 133) hi0 hi1 dX12_comes_219 (hc := ac_133) (hlen := ln_133 _ _) (K := ?_)
            refine ev_iconst dX12_comes_220 (k := ?_)
            refine ev_icmpne 330 dX12_comes_221 (kt := fun hc => ?_) (kf := fun hc => ?_)
            · rw [if_neg hc] at H
              cases H
              exact ev_return dX12_comes_330
            · rw [if_pos hc] at H
              refine ev_lv [1, 4] [(0, .inr (.inr (some (12, 0)))), (4, .inl (l4))] (k := ?_)
              exact E12_comes_224 l4 h _ H
      · rw [if_neg hs2] at H
        by_cases hs3 : h.1 168 0 1 = 4
        · rw [if_pos hs3] at H
          refine ev_tableIn (off := 181) 233 dX12_comes_52 (by omega) (by omega) (by rw [hs3]; rfl) (k := ?_)
          refine ev_aload_n 1 dX12_comes_233 (k := ?_)
          refine ev_getR (t := 154) (x := some (154, 0)) fl_X12_158 dX12_comes_234 (hx := ry_12_54 _ _) (K := ?_)
          refine ev_iload_n 3 dX12_comes_237 (k := ?_)
          obtain ⟨⟨hi0, hi1⟩, H⟩ := g_e H
          refine ev_iaload (k := 154) hi0 hi1 dX12_comes_238 (hc := ac_154) (hlen := ln_154 _ _) (K := ?_)
          refine ev_ifeq 330 dX12_comes_239 (kt := fun hc => ?_) (kf := fun hc => ?_)
          · rw [if_pos hc] at H
            cases H
            exact ev_return dX12_comes_330
          · rw [if_neg hc] at H
            refine ev_aload_n 1 dX12_comes_242 (k := ?_)
            refine ev_getR (t := 168) (x := some (168, 0)) fl_X12_197 dX12_comes_243 (hx := ry_12_68 _ _) (K := ?_)
            refine ev_iconst dX12_comes_246 (k := ?_)
            obtain ⟨⟨hi0, hi1⟩, H⟩ := g_e H
            refine ev_iaload (k := 168) hi0 hi1 dX12_comes_247 (hc := ac_168) (hlen := ln_168 _ _) (K := ?_)
            obtain ⟨x10, ex10, H⟩ := lt_e H
            refine ev_topI ex10 ?_
            refine ev_istore [(6, .inl (x10)), (5, .inl (s0)), (0, .inr (.inr (some (12, 0)))), (1, .inl (l1)), (3, .inl (l3)), (4, .inl (l4))] dX12_comes_248 (k := ?_)
            refine ev_aload_n 2 dX12_comes_250 (k := ?_)
            refine ev_getR (t := 168) (x := some (168, 0)) fl_X12_197 dX12_comes_251 (hx := ry_12_68 _ _) (K := ?_)
            refine ev_iconst dX12_comes_254 (k := ?_)
            obtain ⟨⟨hi0, hi1⟩, H⟩ := g_e H
            refine ev_iaload (k := 168) hi0 hi1 dX12_comes_255 (hc := ac_168) (hlen := ln_168 _ _) (K := ?_)
            obtain ⟨x11, ex11, H⟩ := lt_e H
            refine ev_topI ex11 ?_
            refine ev_istore [(7, .inl (x11)), (6, .inl (x10)), (5, .inl (s0)), (0, .inr (.inr (some (12, 0)))), (1, .inl (l1)), (3, .inl (l3)), (4, .inl (l4))] dX12_comes_256 (k := ?_)
            refine ev_aload_n 3 dX12_comes_258 (k := ?_)
            refine ev_iload 0 dX12_comes_259 (k := ?_)
            refine ev_iconst dX12_comes_261 (k := ?_)
            obtain ⟨h12, hq, H⟩ := bd_e H
            refine ev_callV (mc := 0) (ms := 0) (st := []) (C12_begins hq) md_X12_begins im_X12_begins se_X12_begins ml_X12_352 dX12_comes_262 _ (by decide) (K := ?_)
            refine ev_aload_n 3 dX12_comes_265 (k := ?_)
            refine ev_iload_n 4 dX12_comes_266 (k := ?_)
            obtain ⟨h13, hq, H⟩ := bd_e H
            refine ev_callV (mc := 0) (ms := 0) (st := []) (C12_goes hq) md_X12_goes im_X12_goes se_X12_goes ml_X12_358 dX12_comes_267 _ (by decide) (K := ?_)
            refine ev_aload_n 3 dX12_comes_270 (k := ?_)
            refine ev_getR (t := 154) (x := some (154, 0)) fl_X12_158 dX12_comes_271 (hx := ry_12_54 _ _) (K := ?_)
            refine ev_iload_n 5 dX12_comes_274 (k := ?_)
            obtain ⟨⟨hi0, hi1⟩, H⟩ := g_e H
            refine ev_iaload (k := 154) hi0 hi1 dX12_comes_275 (hc := ac_154) (hlen := ln_154 _ _) (K := ?_)
            refine ev_iconst dX12_comes_276 (k := ?_)
            refine ev_icmpne 283 dX12_comes_277 (kt := fun hc => ?_) (kf := fun hc => ?_)
            · rw [if_neg hc] at H
              refine ev_aload_n 3 dX12_comes_283 (k := ?_)
              refine ev_getR (t := 154) (x := some (154, 0)) fl_X12_158 dX12_comes_284 (hx := ry_12_54 _ _) (K := ?_)
              refine ev_iload_n 5 dX12_comes_287 (k := ?_)
              refine ev_iconst dX12_comes_288 (k := ?_)
              obtain ⟨⟨hi0, hi1⟩, H⟩ := g_e H
              obtain ⟨h14, eh14, H⟩ := lt_e H
              refine ev_iastore (k := 154) j_ok1 hi0 hi1 eh14 dX12_comes_289 (hc := ac_154) (hlen := ln_154 _ _) (K := ?_)
              refine ev_aload_n 3 dX12_comes_290 (k := ?_)
              refine ev_getR (t := 155) (x := some (155, 0)) fl_X12_161 dX12_comes_291 (hx := ry_12_55 _ _) (K := ?_)
              refine ev_iload_n 5 dX12_comes_294 (k := ?_)
              refine ev_iconst dX12_comes_295 (k := ?_)
              obtain ⟨⟨hi0, hi1⟩, H⟩ := g_e H
              obtain ⟨h15, eh15, H⟩ := lt_e H
              refine ev_iastore (k := 155) j_ok1 hi0 hi1 eh15 dX12_comes_296 (hc := ac_155) (hlen := ln_155 _ _) (K := ?_)
              refine ev_aload_n 3 dX12_comes_297 (k := ?_)
              refine ev_iload 6 dX12_comes_298 (k := ?_)
              refine ev_iload 1 dX12_comes_300 (k := ?_)
              refine ev_bipush dX12_comes_302 (k := ?_)
              refine ev_iload 0 dX12_comes_304 (k := ?_)
              refine ev_iadd dX12_comes_306 (k := ?_)
              obtain ⟨h16, hq, H⟩ := bd_e H
              refine ev_callV (mc := 0) (ms := 0) (st := []) (C12_over hq) md_X12_over im_X12_over se_X12_over ml_X12_323 dX12_comes_307 _ (by decide) (K := ?_)
              refine ev_goto 330 dX12_comes_310 (k := ?_)
              cases H
              exact ev_return dX12_comes_330
            · rw [if_pos hc] at H
              refine ev_goto 330 dX12_comes_280 (k := ?_)
              cases H
              exact ev_return dX12_comes_330
        · rw [if_neg hs3] at H
          refine ev_tableOut 313 dX12_comes_52 (by omega) (k := ?_)
          refine ev_aload_n 1 dX12_comes_313 (k := ?_)
          refine ev_getR (t := 154) (x := some (154, 0)) fl_X12_158 dX12_comes_314 (hx := ry_12_54 _ _) (K := ?_)
          refine ev_iload_n 3 dX12_comes_317 (k := ?_)
          obtain ⟨⟨hi0, hi1⟩, H⟩ := g_e H
          refine ev_iaload (k := 154) hi0 hi1 dX12_comes_318 (hc := ac_154) (hlen := ln_154 _ _) (K := ?_)
          refine ev_iconst dX12_comes_319 (k := ?_)
          refine ev_icmpne 330 dX12_comes_320 (kt := fun hc => ?_) (kf := fun hc => ?_)
          · rw [if_neg hc] at H
            cases H
            exact ev_return dX12_comes_330
          · rw [if_pos hc] at H
            refine ev_aload_n 1 dX12_comes_323 (k := ?_)
            refine ev_getR (t := 154) (x := some (154, 0)) fl_X12_158 dX12_comes_324 (hx := ry_12_54 _ _) (K := ?_)
            refine ev_iload_n 3 dX12_comes_327 (k := ?_)
            refine ev_iconst dX12_comes_328 (k := ?_)
            obtain ⟨⟨hi0, hi1⟩, H⟩ := g_e H
            obtain ⟨h17, eh17, H⟩ := lt_e H
            refine ev_iastore (k := 154) j_ok1 hi0 hi1 eh17 dX12_comes_329 (hc := ac_154) (hlen := ln_154 _ _) (K := ?_)
            cases H
            exact ev_return dX12_comes_330
set_option maxRecDepth 100000 in
set_option maxHeartbeats 4000000 in
theorem C12_comes {l1 : Int} {l2 : Int} {h : JM} {res : JM} (H : F12_comes l1 l2 h = some res) : Cn j_W1 90 0 0 yX12_comes cX12_comes 8 none [.inr (.inr (some (12, 0))), .inl (l1), .inl (l2)] h none res := by
  refine Cn.by (own := RX12) (b := false) [(0, .inr (.inr (some (12, 0)))), (1, .inl (l1)), (2, .inl (l2))] rfl (fun z => by cases z) (by decide +kernel) (K := ?_)
  unfold F12_comes at H
  refine ev_aload_n 0 dX12_comes_0 (k := ?_)
  refine ev_iload_n 2 dX12_comes_1 (k := ?_)
  obtain ⟨q18, hq, H⟩ := bd_e H
  refine ev_callV (mc := 0) (ms := 0) (st := []) (C12_isSo hq) md_X12_isSo im_X12_isSo se_X12_isSo ml_X12_412 dX12_comes_2 _ (by decide) (K := ?_)
  refine ev_ifne 9 dX12_comes_5 (kt := fun hc => ?_) (kf := fun hc => ?_)
  · rw [if_neg hc] at H
    refine ev_bipush dX12_comes_9 (k := ?_)
    refine ev_iload_n 1 dX12_comes_11 (k := ?_)
    refine ev_imul dX12_comes_12 (k := ?_)
    refine ev_aload_n 0 dX12_comes_13 (k := ?_)
    refine ev_getR (t := 168) (x := some (168, 0)) fl_X12_197 dX12_comes_14 (hx := ry_12_68 _ _) (K := ?_)
    refine ev_iconst dX12_comes_17 (k := ?_)
    obtain ⟨⟨hi0, hi1⟩, H⟩ := g_e H
    refine ev_iaload (k := 168) hi0 hi1 dX12_comes_18 (hc := ac_168) (hlen := ln_168 _ _) (K := ?_)
    refine ev_iadd dX12_comes_19 (k := ?_)
    obtain ⟨x19, ex19, H⟩ := lt_e H
    refine ev_topI ex19 ?_
    refine ev_istore_n [(3, .inl (x19)), (0, .inr (.inr (some (12, 0)))), (1, .inl (l1)), (2, .inl (l2))] dX12_comes_20 (k := ?_)
    refine ev_aload_n 1 dX12_comes_21 (k := ?_)
    refine ev_getR (t := 155) (x := some (155, 0)) fl_X12_161 dX12_comes_22 (hx := ry_12_55 _ _) (K := ?_)
    refine ev_iload_n 0 dX12_comes_25 (k := ?_)
    obtain ⟨⟨hi0, hi1⟩, H⟩ := g_e H
    refine ev_iaload (k := 155) hi0 hi1 dX12_comes_26 (hc := ac_155) (hlen := ln_155 _ _) (K := ?_)
    obtain ⟨x20, ex20, H⟩ := lt_e H
    refine ev_topI ex20 ?_
    refine ev_istore [(4, .inl (x20)), (3, .inl (x19)), (0, .inr (.inr (some (12, 0)))), (1, .inl (l1)), (2, .inl (l2))] dX12_comes_27 (k := ?_)
    refine ev_aload_n 2 dX12_comes_29 (k := ?_)
    refine ev_getR (t := 154) (x := some (154, 0)) fl_X12_158 dX12_comes_30 (hx := ry_12_54 _ _) (K := ?_)
    refine ev_iload_n 1 dX12_comes_33 (k := ?_)
    obtain ⟨⟨hi0, hi1⟩, H⟩ := g_e H
    refine ev_iaload (k := 154) hi0 hi1 dX12_comes_34 (hc := ac_154) (hlen := ln_154 _ _) (K := ?_)
    refine ev_iconst dX12_comes_35 (k := ?_)
    refine ev_icmpne 43 dX12_comes_36 (kt := fun hc => ?_) (kf := fun hc => ?_)
    · rw [if_neg hc] at H
      refine ev_iconst dX12_comes_43 (k := ?_)
      refine ev_lv [2, 3, 1, 0] [(0, .inr (.inr (some (12, 0)))), (1, .inl (l1)), (3, .inl (x19)), (4, .inl (x20))] (k := ?_)
      exact E12_comes_44 l1 x19 x20 0 q18.2 _ H
    · rw [if_pos hc] at H
      refine ev_iconst dX12_comes_39 (k := ?_)
      refine ev_goto 44 dX12_comes_40 (k := ?_)
      refine ev_lv [2, 3, 1, 0] [(0, .inr (.inr (some (12, 0)))), (1, .inl (l1)), (3, .inl (x19)), (4, .inl (x20))] (k := ?_)
      exact E12_comes_44 l1 x19 x20 1 q18.2 _ H
  · rw [if_pos hc] at H
    cases H
    exact ev_return dX12_comes_8
-- X12_isLine
abbrev T12_isLine : JT := (RX12, cX12_isLine, 1, some .boolean, false)
set_option maxRecDepth 100000 in
set_option maxHeartbeats 4000000 in
theorem C12_isLine {l0 : Int} {h : JM} {res : (Int × JM)} (H : F12_isLine l0 h = some res) : Cn j_W1 2 0 0 yX12_isLine cX12_isLine 1 (some .boolean) [.inl (l0)] h (some (.inl res.1)) res.2 := by
  refine Cn.by (own := RX12) (b := false) [(0, .inl (l0))] rfl (fun z => by cases z) (by decide +kernel) (K := ?_)
  unfold F12_isLine at H
  refine ev_iload_n 0 dX12_isLine_0 (k := ?_)
  refine ev_i2l dX12_isLine_1 (k := ?_)
  refine ev_lconst (v := 0) dX12_isLine_2 (k := ?_)
  refine ev_ldc2 (n := 15) cl_X12_283 dX12_isLine_3 (k := ?_)
  obtain ⟨q1, hq, H⟩ := bd_e H
  refine ev_callS (mc := 0) (ms := 0) (st := []) (C12_in hq) md_X12_in ss_X12_in ml_X12_268 dX12_isLine_6 _ (by decide) (K := ?_)
  obtain ⟨hz, H⟩ := g_e H
  cases H
  exact ev_zreturn hz dX12_isLine_9
-- X12_credit
abbrev T12_credit : JT := (RX12, cX12_credit, 4, some .int, false)
set_option maxRecDepth 100000 in
set_option maxHeartbeats 4000000 in
theorem E12_credit_21 (h : JM) (res : (Int × JM)) (H : F12_credit_21 h = some res) : Ev j_W1 3 0 0 T12_credit 21 [] [] h (some (.inl res.1)) res.2 := by
  unfold F12_credit_21 at H
  refine ev_bipush dX12_credit_21 (k := ?_)
  cases H
  exact ev_ireturn dX12_credit_23
set_option maxRecDepth 100000 in
set_option maxHeartbeats 4000000 in
theorem C12_credit {l1 : Int} {l2 : Int} {h : JM} {res : (Int × JM)} (H : F12_credit l1 l2 h = some res) : Cn j_W1 3 0 0 yX12_credit cX12_credit 4 (some .int) [.inr (.inr (some (12, 0))), .inl (l1), .inl (l2)] h (some (.inl res.1)) res.2 := by
  refine Cn.by (own := RX12) (b := false) [(0, .inr (.inr (some (12, 0)))), (1, .inl (l1)), (2, .inl (l2))] rfl (fun z => by cases z) (by decide +kernel) (K := ?_)
  unfold F12_credit at H
  refine ev_iload_n 1 dX12_credit_0 (k := ?_)
  obtain ⟨q1, hq, H⟩ := bd_e H
  refine ev_callS (mc := 0) (ms := 0) (st := []) (C12_isLine hq) md_X12_isLine ss_X12_isLine ml_X12_288 dX12_credit_1 _ (by decide) (K := ?_)
  refine ev_ifeq 21 dX12_credit_4 (kt := fun hc => ?_) (kf := fun hc => ?_)
  · rw [if_pos hc] at H
    refine ev_lv [] [] (k := ?_)
    exact E12_credit_21 q1.2 _ H
  · rw [if_neg hc] at H
    refine ev_iload_n 2 dX12_credit_7 (k := ?_)
    refine ev_i2l dX12_credit_8 (k := ?_)
    refine ev_ldc2 (n := (-1)) cl_X12_292 dX12_credit_9 (k := ?_)
    refine ev_ldc2 (n := 1000000) cl_X12_294 dX12_credit_12 (k := ?_)
    obtain ⟨q2, hq, H⟩ := bd_e H
    refine ev_callS (mc := 0) (ms := 0) (st := []) (C12_in hq) md_X12_in ss_X12_in ml_X12_268 dX12_credit_15 _ (by decide) (K := ?_)
    refine ev_ifne 24 dX12_credit_18 (kt := fun hc => ?_) (kf := fun hc => ?_)
    · rw [if_neg hc] at H
      refine ev_aload_n 0 dX12_credit_24 (k := ?_)
      refine ev_getR (t := 126) (x := some (126, 0)) fl_X12_77 dX12_credit_25 (hx := ry_12_26 _ _) (K := ?_)
      refine ev_iload_n 1 dX12_credit_28 (k := ?_)
      obtain ⟨⟨hi0, hi1⟩, H⟩ := g_e H
      refine ev_iaload (k := 126) hi0 hi1 dX12_credit_29 (hc := ac_126) (hlen := ln_126 _ _) (K := ?_)
      obtain ⟨x3, ex3, H⟩ := lt_e H
      refine ev_topI ex3 ?_
      refine ev_istore_n [(3, .inl (x3)), (0, .inr (.inr (some (12, 0)))), (1, .inl (l1)), (2, .inl (l2))] dX12_credit_30 (k := ?_)
      refine ev_aload_n 1 dX12_credit_31 (k := ?_)
      refine ev_getR (t := 126) (x := some (126, 0)) fl_X12_77 dX12_credit_32 (hx := ry_12_26 _ _) (K := ?_)
      refine ev_iload_n 2 dX12_credit_35 (k := ?_)
      refine ev_iload_n 3 dX12_credit_36 (k := ?_)
      obtain ⟨⟨hi0, hi1⟩, H⟩ := g_e H
      obtain ⟨h4, eh4, H⟩ := lt_e H
      refine ev_iastore (k := 126) j_ok1 hi0 hi1 eh4 dX12_credit_37 (hc := ac_126) (hlen := ln_126 _ _) (K := ?_)
      refine ev_iload_n 0 dX12_credit_38 (k := ?_)
      cases H
      exact ev_ireturn dX12_credit_39
    · rw [if_pos hc] at H
      refine ev_lv [] [] (k := ?_)
      exact E12_credit_21 q2.2 _ H
-- X12_dial
abbrev T12_dial : JT := (RX12, cX12_dial, 3, some .int, false)
set_option maxRecDepth 100000 in
set_option maxHeartbeats 4000000 in
theorem E12_dial_28 (h : JM) (res : (Int × JM)) (H : F12_dial_28 h = some res) : Ev j_W1 3 0 0 T12_dial 28 [] [] h (some (.inl res.1)) res.2 := by
  unfold F12_dial_28 at H
  refine ev_bipush dX12_dial_28 (k := ?_)
  cases H
  exact ev_ireturn dX12_dial_30
set_option maxRecDepth 100000 in
set_option maxHeartbeats 4000000 in
theorem C12_dial {l1 : Int} {l2 : Int} {h : JM} {res : (Int × JM)} (H : F12_dial l1 l2 h = some res) : Cn j_W1 3 0 0 yX12_dial cX12_dial 3 (some .int) [.inr (.inr (some (12, 0))), .inl (l1), .inl (l2)] h (some (.inl res.1)) res.2 := by
  refine Cn.by (own := RX12) (b := false) [(0, .inr (.inr (some (12, 0)))), (1, .inl (l1)), (2, .inl (l2))] rfl (fun z => by cases z) (by decide +kernel) (K := ?_)
  unfold F12_dial at H
  refine ev_iload_n 1 dX12_dial_0 (k := ?_)
  obtain ⟨q1, hq, H⟩ := bd_e H
  refine ev_callS (mc := 0) (ms := 0) (st := []) (C12_isLine hq) md_X12_isLine ss_X12_isLine ml_X12_288 dX12_dial_1 _ (by decide) (K := ?_)
  refine ev_ifeq 28 dX12_dial_4 (kt := fun hc => ?_) (kf := fun hc => ?_)
  · rw [if_pos hc] at H
    refine ev_lv [] [] (k := ?_)
    exact E12_dial_28 q1.2 _ H
  · rw [if_neg hc] at H
    refine ev_iload_n 2 dX12_dial_7 (k := ?_)
    refine ev_i2l dX12_dial_8 (k := ?_)
    refine ev_lconst (v := 0) dX12_dial_9 (k := ?_)
    refine ev_ldc2 (n := 11) cl_X12_266 dX12_dial_10 (k := ?_)
    obtain ⟨q2, hq, H⟩ := bd_e H
    refine ev_callS (mc := 0) (ms := 0) (st := []) (C12_in hq) md_X12_in ss_X12_in ml_X12_268 dX12_dial_13 _ (by decide) (K := ?_)
    refine ev_ifeq 28 dX12_dial_16 (kt := fun hc => ?_) (kf := fun hc => ?_)
    · rw [if_pos hc] at H
      refine ev_lv [] [] (k := ?_)
      exact E12_dial_28 q2.2 _ H
    · rw [if_neg hc] at H
      refine ev_aload_n 0 dX12_dial_19 (k := ?_)
      refine ev_getR (t := 112) (x := some (112, 0)) fl_X12_34 dX12_dial_20 (hx := ry_12_12 _ _) (K := ?_)
      refine ev_iload_n 1 dX12_dial_23 (k := ?_)
      obtain ⟨⟨hi0, hi1⟩, H⟩ := g_e H
      refine ev_zaload (k := 112) hi0 hi1 dX12_dial_24 (hc := ac_112) (hlen := ln_112 _ _) (K := ?_)
      refine ev_ifne 31 dX12_dial_25 (kt := fun hc => ?_) (kf := fun hc => ?_)
      · rw [if_neg hc] at H
        refine ev_aload_n 0 dX12_dial_31 (k := ?_)
        refine ev_getR (t := 118) (x := some (118, 0)) fl_X12_53 dX12_dial_32 (hx := ry_12_18 _ _) (K := ?_)
        refine ev_iload_n 1 dX12_dial_35 (k := ?_)
        obtain ⟨⟨hi0, hi1⟩, H⟩ := g_e H
        refine ev_iaload (k := 118) hi0 hi1 dX12_dial_36 (hc := ac_118) (hlen := ln_118 _ _) (K := ?_)
        refine ev_bipush dX12_dial_37 (k := ?_)
        refine ev_icmpne 45 dX12_dial_39 (kt := fun hc => ?_) (kf := fun hc => ?_)
        · rw [if_neg hc] at H
          refine ev_aload_n 0 dX12_dial_45 (k := ?_)
          refine ev_getR (t := 117) (x := some (117, 0)) fl_X12_50 dX12_dial_46 (hx := ry_12_17 _ _) (K := ?_)
          refine ev_bipush dX12_dial_49 (k := ?_)
          refine ev_iload_n 1 dX12_dial_51 (k := ?_)
          refine ev_imul dX12_dial_52 (k := ?_)
          refine ev_aload_n 0 dX12_dial_53 (k := ?_)
          refine ev_getR (t := 118) (x := some (118, 0)) fl_X12_53 dX12_dial_54 (hx := ry_12_18 _ _) (K := ?_)
          refine ev_iload_n 1 dX12_dial_57 (k := ?_)
          refine ev_dup2 dX12_dial_58 (k := ?_)
          obtain ⟨⟨hi0, hi1⟩, H⟩ := g_e H
          refine ev_iaload (k := 118) hi0 hi1 dX12_dial_59 (hc := ac_118) (hlen := ln_118 _ _) (K := ?_)
          refine ev_dup_x2 dX12_dial_60 (k := ?_)
          refine ev_iconst dX12_dial_61 (k := ?_)
          refine ev_iadd dX12_dial_62 (k := ?_)
          obtain ⟨⟨hi0, hi1⟩, H⟩ := g_e H
          obtain ⟨h3, eh3, H⟩ := lt_e H
          refine ev_iastore (k := 118) j_ok1 hi0 hi1 eh3 dX12_dial_63 (hc := ac_118) (hlen := ln_118 _ _) (K := ?_)
          refine ev_iadd dX12_dial_64 (k := ?_)
          refine ev_iload_n 2 dX12_dial_65 (k := ?_)
          obtain ⟨⟨hi0, hi1⟩, H⟩ := g_e H
          obtain ⟨h4, eh4, H⟩ := lt_e H
          refine ev_iastore (k := 117) j_ok1 hi0 hi1 eh4 dX12_dial_66 (hc := ac_117) (hlen := ln_117 _ _) (K := ?_)
          refine ev_aload_n 0 dX12_dial_67 (k := ?_)
          refine ev_getR (t := 118) (x := some (118, 0)) fl_X12_53 dX12_dial_68 (hx := ry_12_18 _ _) (K := ?_)
          refine ev_iload_n 1 dX12_dial_71 (k := ?_)
          obtain ⟨⟨hi0, hi1⟩, H⟩ := g_e H
          refine ev_iaload (k := 118) hi0 hi1 dX12_dial_72 (hc := ac_118) (hlen := ln_118 _ _) (K := ?_)
          cases H
          exact ev_ireturn dX12_dial_73
        · rw [if_pos hc] at H
          refine ev_bipush dX12_dial_42 (k := ?_)
          cases H
          exact ev_ireturn dX12_dial_44
      · rw [if_pos hc] at H
        refine ev_lv [] [] (k := ?_)
        exact E12_dial_28 q2.2 _ H
-- X12_feature
abbrev T12_feature : JT := (RX12, cX12_feature, 5, some .int, false)
set_option maxRecDepth 100000 in
set_option maxHeartbeats 4000000 in
theorem E12_feature_19 (h : JM) (res : (Int × JM)) (H : F12_feature_19 h = some res) : Ev j_W1 3 0 0 T12_feature 19 [] [] h (some (.inl res.1)) res.2 := by
  unfold F12_feature_19 at H
  refine ev_bipush dX12_feature_19 (k := ?_)
  cases H
  exact ev_ireturn dX12_feature_21
set_option maxRecDepth 100000 in
set_option maxHeartbeats 4000000 in
theorem C12_feature {l1 : Int} {l2 : Int} {l3 : Int} {h : JM} {res : (Int × JM)} (H : F12_feature l1 l2 l3 h = some res) : Cn j_W1 3 0 0 yX12_feature cX12_feature 5 (some .int) [.inr (.inr (some (12, 0))), .inl (l1), .inl (l2), .inl (l3)] h (some (.inl res.1)) res.2 := by
  refine Cn.by (own := RX12) (b := false) [(0, .inr (.inr (some (12, 0)))), (1, .inl (l1)), (2, .inl (l2)), (3, .inl (l3))] rfl (fun z => by cases z) (by decide +kernel) (K := ?_)
  unfold F12_feature at H
  refine ev_iload_n 1 dX12_feature_0 (k := ?_)
  obtain ⟨q1, hq, H⟩ := bd_e H
  refine ev_callS (mc := 0) (ms := 0) (st := []) (C12_isLine hq) md_X12_isLine ss_X12_isLine ml_X12_288 dX12_feature_1 _ (by decide) (K := ?_)
  refine ev_ifeq 19 dX12_feature_4 (kt := fun hc => ?_) (kf := fun hc => ?_)
  · rw [if_pos hc] at H
    refine ev_lv [] [] (k := ?_)
    exact E12_feature_19 q1.2 _ H
  · rw [if_neg hc] at H
    refine ev_iload_n 2 dX12_feature_7 (k := ?_)
    refine ev_i2l dX12_feature_8 (k := ?_)
    refine ev_lconst (v := 0) dX12_feature_9 (k := ?_)
    refine ev_ldc2 (n := 2) cl_X12_281 dX12_feature_10 (k := ?_)
    obtain ⟨q2, hq, H⟩ := bd_e H
    refine ev_callS (mc := 0) (ms := 0) (st := []) (C12_in hq) md_X12_in ss_X12_in ml_X12_268 dX12_feature_13 _ (by decide) (K := ?_)
    refine ev_ifne 22 dX12_feature_16 (kt := fun hc => ?_) (kf := fun hc => ?_)
    · rw [if_neg hc] at H
      refine ev_aload_n 0 dX12_feature_22 (k := ?_)
      refine ev_getR (t := 127) (x := some (127, 0)) fl_X12_80 dX12_feature_23 (hx := ry_12_27 _ _) (K := ?_)
      refine ev_iconst dX12_feature_26 (k := ?_)
      refine ev_iload_n 1 dX12_feature_27 (k := ?_)
      refine ev_imul dX12_feature_28 (k := ?_)
      refine ev_iload_n 2 dX12_feature_29 (k := ?_)
      refine ev_iadd dX12_feature_30 (k := ?_)
      obtain ⟨⟨hi0, hi1⟩, H⟩ := g_e H
      refine ev_zaload (k := 127) hi0 hi1 dX12_feature_31 (hc := ac_127) (hlen := ln_127 _ _) (K := ?_)
      obtain ⟨x3, ex3, H⟩ := lt_e H
      refine ev_topI ex3 ?_
      refine ev_istore [(4, .inl (x3)), (0, .inr (.inr (some (12, 0)))), (1, .inl (l1)), (2, .inl (l2)), (3, .inl (l3))] dX12_feature_32 (k := ?_)
      refine ev_aload_n 1 dX12_feature_34 (k := ?_)
      refine ev_getR (t := 127) (x := some (127, 0)) fl_X12_80 dX12_feature_35 (hx := ry_12_27 _ _) (K := ?_)
      refine ev_iconst dX12_feature_38 (k := ?_)
      refine ev_iload_n 2 dX12_feature_39 (k := ?_)
      refine ev_imul dX12_feature_40 (k := ?_)
      refine ev_iload_n 3 dX12_feature_41 (k := ?_)
      refine ev_iadd dX12_feature_42 (k := ?_)
      refine ev_iload_n 4 dX12_feature_43 (k := ?_)
      obtain ⟨⟨hi0, hi1⟩, H⟩ := g_e H
      obtain ⟨hz, H⟩ := g_e H
      obtain ⟨h4, eh4, H⟩ := lt_e H
      refine ev_zastore (k := 127) j_ok1 hi0 hi1 hz eh4 dX12_feature_44 (hc := ac_127) (hlen := ln_127 _ _) (K := ?_)
      refine ev_iload 0 dX12_feature_45 (k := ?_)
      refine ev_ifeq 54 dX12_feature_47 (kt := fun hc => ?_) (kf := fun hc => ?_)
      · rw [if_pos hc] at H
        refine ev_iconst dX12_feature_54 (k := ?_)
        cases H
        exact ev_ireturn dX12_feature_55
      · rw [if_neg hc] at H
        refine ev_iconst dX12_feature_50 (k := ?_)
        refine ev_goto 55 dX12_feature_51 (k := ?_)
        cases H
        exact ev_ireturn dX12_feature_55
    · rw [if_pos hc] at H
      refine ev_lv [] [] (k := ?_)
      exact E12_feature_19 q2.2 _ H
-- X12_flag
abbrev T12_flag : JT := (RX12, cX12_flag, 2, none, false)
set_option maxRecDepth 100000 in
set_option maxHeartbeats 4000000 in
theorem E12_flag_38 (k2 : Int → JM → Option JM) (hk2 : ∀ (l1 : Int) (h : JM) (res : JM), k2 l1 h = some res → Ev j_W1 1 0 0 T12_flag 2 [(0, .inr (.inr (some (12, 0)))), (1, .inl (l1))] [] h none res) (l1 : Int) (s0 : Option Int) (s1 : Int) (s2 : Int) (h : JM) (res : JM) (H : F12_flag_38 k2 l1 s0 s1 s2 h = some res) : Ev j_W1 1 0 0 T12_flag 38 [(0, .inr (.inr (some (12, 0)))), (1, .inl (l1))] [.inl (s2), .inl (s1), .inr (.inr (Option.map (Prod.mk 169) (s0)))] h none res := by
  unfold F12_flag_38 at H
  obtain ⟨a1, ea1, H⟩ := bd_e H
  rw [ea1]
  obtain ⟨⟨hi0, hi1⟩, H⟩ := g_e H
  obtain ⟨h2, eh2, H⟩ := lt_e H
  refine ev_iastore (k := 169) j_ok1 hi0 hi1 eh2 dX12_flag_38 (hc := ac_169) (hlen := ln_169 _ _) (K := ?_)
  refine ev_iinc 1 [(1, .inl (w32 (l1 + 1))), (0, .inr (.inr (some (12, 0))))] dX12_flag_39 (k := ?_)
  refine ev_goto 2 dX12_flag_42 (k := ?_)
  refine ev_lv [1, 0] [(0, .inr (.inr (some (12, 0)))), (1, .inl (w32 (l1 + 1)))] (k := ?_)
  exact hk2 (w32 (l1 + 1)) h2 _ H
set_option maxRecDepth 100000 in
set_option maxHeartbeats 4000000 in
theorem E12_flag_33 (k2 : Int → JM → Option JM) (hk2 : ∀ (l1 : Int) (h : JM) (res : JM), k2 l1 h = some res → Ev j_W1 1 0 0 T12_flag 2 [(0, .inr (.inr (some (12, 0)))), (1, .inl (l1))] [] h none res) (l1 : Int) (s0 : Option Int) (s1 : Int) (h : JM) (res : JM) (H : F12_flag_33 k2 l1 s0 s1 h = some res) : Ev j_W1 1 0 0 T12_flag 33 [(0, .inr (.inr (some (12, 0)))), (1, .inl (l1))] [.inl (s1), .inr (.inr (Option.map (Prod.mk 169) (s0)))] h none res := by
  unfold F12_flag_33 at H
  refine ev_iconst dX12_flag_33 (k := ?_)
  refine ev_goto 38 dX12_flag_34 (k := ?_)
  exact E12_flag_38 k2 hk2 l1 s0 s1 0 h _ H
set_option maxRecDepth 100000 in
set_option maxHeartbeats 4000000 in
theorem E12_flag_2b (k2 : Int → JM → Option JM) (hk2 : ∀ (l1 : Int) (h : JM) (res : JM), k2 l1 h = some res → Ev j_W1 1 0 0 T12_flag 2 [(0, .inr (.inr (some (12, 0)))), (1, .inl (l1))] [] h none res) (l1 : Int) (h : JM) (res : JM) (H : F12_flag_2b k2 l1 h = some res) : Ev j_W1 1 0 0 T12_flag 2 [(0, .inr (.inr (some (12, 0)))), (1, .inl (l1))] [] h none res := by
  unfold F12_flag_2b at H
  refine ev_iload_n 1 dX12_flag_2 (k := ?_)
  refine ev_bipush dX12_flag_3 (k := ?_)
  refine ev_icmpge 45 dX12_flag_5 (kt := fun hc => ?_) (kf := fun hc => ?_)
  · rw [if_pos hc] at H
    cases H
    exact ev_return dX12_flag_45
  · rw [if_neg hc] at H
    refine ev_aload_n 0 dX12_flag_8 (k := ?_)
    refine ev_getR (t := 169) (x := some (169, 0)) fl_X12_200 dX12_flag_9 (hx := ry_12_69 _ _) (K := ?_)
    refine ev_aload_n 0 dX12_flag_12 (k := ?_)
    refine ev_dup dX12_flag_13 (k := ?_)
    refine ev_getI (x := h.1 12 0 70) fl_X12_433 dX12_flag_14 (K := ?_)
    refine ev_dup_x1 dX12_flag_17 (k := ?_)
    refine ev_iconst dX12_flag_18 (k := ?_)
    refine ev_iadd dX12_flag_19 (k := ?_)
    obtain ⟨h3, eh3, H⟩ := lt_e H
    refine ev_putI j_ok1 fl_X12_433 eh3 dX12_flag_20 (K := ?_)
    refine ev_iload_n 1 dX12_flag_23 (k := ?_)
    refine ev_ifeq 33 dX12_flag_24 (kt := fun hc => ?_) (kf := fun hc => ?_)
    · rw [if_pos hc] at H
      exact E12_flag_33 k2 hk2 l1 (some 0) (h.1 12 0 70) h3 _ H
    · rw [if_neg hc] at H
      refine ev_iload_n 1 dX12_flag_27 (k := ?_)
      refine ev_bipush dX12_flag_28 (k := ?_)
      refine ev_icmpne 37 dX12_flag_30 (kt := fun hc => ?_) (kf := fun hc => ?_)
      · rw [if_neg hc] at H
        refine ev_iconst dX12_flag_37 (k := ?_)
        exact E12_flag_38 k2 hk2 l1 (some 0) (h.1 12 0 70) 1 h3 _ H
      · rw [if_pos hc] at H
        exact E12_flag_33 k2 hk2 l1 (some 0) (h.1 12 0 70) h3 _ H
theorem E12_flag_2 (n : Nat) : ∀ (l1 : Int) (h : JM) (res : JM), F12_flag_2 n l1 h = some res → Ev j_W1 1 0 0 T12_flag 2 [(0, .inr (.inr (some (12, 0)))), (1, .inl (l1))] [] h none res := by
  induction n with
  | zero =>
    intro l1 h res H
    cases H
  | succ n ih =>
    intro l1 h res H
    exact E12_flag_2b (F12_flag_2 n) ih l1 h res H
set_option maxRecDepth 100000 in
set_option maxHeartbeats 4000000 in
theorem C12_flag {h : JM} {res : JM} (H : F12_flag h = some res) : Cn j_W1 1 0 0 yX12_flag cX12_flag 2 none [.inr (.inr (some (12, 0)))] h none res := by
  refine Cn.by (own := RX12) (b := false) [(0, .inr (.inr (some (12, 0))))] rfl (fun z => by cases z) (by decide +kernel) (K := ?_)
  unfold F12_flag at H
  refine ev_iconst dX12_flag_0 (k := ?_)
  refine ev_istore_n [(1, .inl (0)), (0, .inr (.inr (some (12, 0))))] dX12_flag_1 (k := ?_)
  refine ev_lv [1, 0] [(0, .inr (.inr (some (12, 0)))), (1, .inl (0))] (k := ?_)
  exact E12_flag_2 j_fu 0 h _ H
-- X12_flashes
abbrev T12_flashes : JT := (RX12, cX12_flashes, 3, none, false)
set_option maxRecDepth 100000 in
set_option maxHeartbeats 4000000 in
theorem C12_flashes {l1 : Int} {h : JM} {res : JM} (H : F12_flashes l1 h = some res) : Cn j_W1 6 0 0 yX12_flashes cX12_flashes 3 none [.inr (.inr (some (12, 0))), .inl (l1)] h none res := by
  refine Cn.by (own := RX12) (b := false) [(0, .inr (.inr (some (12, 0)))), (1, .inl (l1))] rfl (fun z => by cases z) (by decide +kernel) (K := ?_)
  unfold F12_flashes at H
  refine ev_aload_n 0 dX12_flashes_0 (k := ?_)
  refine ev_getR (t := 120) (x := some (120, 0)) fl_X12_59 dX12_flashes_1 (hx := ry_12_20 _ _) (K := ?_)
  refine ev_iload_n 1 dX12_flashes_4 (k := ?_)
  obtain ⟨⟨hi0, hi1⟩, H⟩ := g_e H
  refine ev_iaload (k := 120) hi0 hi1 dX12_flashes_5 (hc := ac_120) (hlen := ln_120 _ _) (K := ?_)
  refine ev_iconst dX12_flashes_6 (k := ?_)
  refine ev_icmpne 11 dX12_flashes_7 (kt := fun hc => ?_) (kf := fun hc => ?_)
  · rw [if_neg hc] at H
    refine ev_aload_n 0 dX12_flashes_11 (k := ?_)
    refine ev_getR (t := 120) (x := some (120, 0)) fl_X12_59 dX12_flashes_12 (hx := ry_12_20 _ _) (K := ?_)
    refine ev_iload_n 1 dX12_flashes_15 (k := ?_)
    obtain ⟨⟨hi0, hi1⟩, H⟩ := g_e H
    refine ev_iaload (k := 120) hi0 hi1 dX12_flashes_16 (hc := ac_120) (hlen := ln_120 _ _) (K := ?_)
    obtain ⟨x1, ex1, H⟩ := lt_e H
    refine ev_topI ex1 ?_
    refine ev_istore_n [(2, .inl (x1)), (0, .inr (.inr (some (12, 0)))), (1, .inl (l1))] dX12_flashes_17 (k := ?_)
    refine ev_aload_n 1 dX12_flashes_18 (k := ?_)
    refine ev_getR (t := 120) (x := some (120, 0)) fl_X12_59 dX12_flashes_19 (hx := ry_12_20 _ _) (K := ?_)
    refine ev_iload_n 2 dX12_flashes_22 (k := ?_)
    refine ev_aload_n 1 dX12_flashes_23 (k := ?_)
    refine ev_getR (t := 119) (x := some (119, 0)) fl_X12_56 dX12_flashes_24 (hx := ry_12_19 _ _) (K := ?_)
    refine ev_iload_n 2 dX12_flashes_27 (k := ?_)
    obtain ⟨⟨hi0, hi1⟩, H⟩ := g_e H
    refine ev_iaload (k := 119) hi0 hi1 dX12_flashes_28 (hc := ac_119) (hlen := ln_119 _ _) (K := ?_)
    obtain ⟨⟨hi0, hi1⟩, H⟩ := g_e H
    obtain ⟨h2, eh2, H⟩ := lt_e H
    refine ev_iastore (k := 120) j_ok1 hi0 hi1 eh2 dX12_flashes_29 (hc := ac_120) (hlen := ln_120 _ _) (K := ?_)
    refine ev_aload_n 1 dX12_flashes_30 (k := ?_)
    refine ev_getR (t := 119) (x := some (119, 0)) fl_X12_56 dX12_flashes_31 (hx := ry_12_19 _ _) (K := ?_)
    refine ev_iload_n 2 dX12_flashes_34 (k := ?_)
    refine ev_iload_n 0 dX12_flashes_35 (k := ?_)
    obtain ⟨⟨hi0, hi1⟩, H⟩ := g_e H
    obtain ⟨h3, eh3, H⟩ := lt_e H
    refine ev_iastore (k := 119) j_ok1 hi0 hi1 eh3 dX12_flashes_36 (hc := ac_119) (hlen := ln_119 _ _) (K := ?_)
    refine ev_aload_n 1 dX12_flashes_37 (k := ?_)
    refine ev_getR (t := 133) (x := some (133, 0)) fl_X12_95 dX12_flashes_38 (hx := ry_12_33 _ _) (K := ?_)
    refine ev_iload_n 0 dX12_flashes_41 (k := ?_)
    obtain ⟨⟨hi0, hi1⟩, H⟩ := g_e H
    refine ev_iaload (k := 133) hi0 hi1 dX12_flashes_42 (hc := ac_133) (hlen := ln_133 _ _) (K := ?_)
    refine ev_iconst dX12_flashes_43 (k := ?_)
    refine ev_icmpne 52 dX12_flashes_44 (kt := fun hc => ?_) (kf := fun hc => ?_)
    · rw [if_neg hc] at H
      cases H
      exact ev_return dX12_flashes_52
    · rw [if_pos hc] at H
      refine ev_aload_n 1 dX12_flashes_47 (k := ?_)
      refine ev_iload_n 0 dX12_flashes_48 (k := ?_)
      obtain ⟨h4, hq, H⟩ := bd_e H
      refine ev_callV (mc := 0) (ms := 0) (st := []) (C12_answered hq) md_X12_answered im_X12_answered se_X12_answered ml_X12_320 dX12_flashes_49 _ (by decide) (K := ?_)
      cases H
      exact ev_return dX12_flashes_52
  · rw [if_pos hc] at H
    cases H
    exact ev_return dX12_flashes_10
-- X12_forward
abbrev T12_forward : JT := (RX12, cX12_forward, 5, some .int, false)
set_option maxRecDepth 100000 in
set_option maxHeartbeats 4000000 in
theorem E12_forward_31b (k31 : Int → Int → JM → Option (Int × JM)) (hk31 : ∀ (l3 : Int) (l4 : Int) (h : JM) (res : (Int × JM)), k31 l3 l4 h = some res → Ev j_W1 3 0 0 T12_forward 31 [(0, .inr (.inr (some (12, 0)))), (3, .inl (l3)), (4, .inl (l4))] [] h (some (.inl res.1)) res.2) (l3 : Int) (l4 : Int) (h : JM) (res : (Int × JM)) (H : F12_forward_31b k31 l3 l4 h = some res) : Ev j_W1 3 0 0 T12_forward 31 [(0, .inr (.inr (some (12, 0)))), (3, .inl (l3)), (4, .inl (l4))] [] h (some (.inl res.1)) res.2 := by
  unfold F12_forward_31b at H
  refine ev_iload 2 dX12_forward_31 (k := ?_)
  refine ev_aload_n 0 dX12_forward_33 (k := ?_)
  refine ev_getI (x := h.1 12 0 4) fl_X12_272 dX12_forward_34 (K := ?_)
  refine ev_icmpge 65 dX12_forward_37 (kt := fun hc => ?_) (kf := fun hc => ?_)
  · rw [if_pos hc] at H
    refine ev_aload_n 0 dX12_forward_65 (k := ?_)
    refine ev_getR (t := 129) (x := some (129, 0)) fl_X12_86 dX12_forward_66 (hx := ry_12_29 _ _) (K := ?_)
    refine ev_iload_n 1 dX12_forward_69 (k := ?_)
    refine ev_aload_n 0 dX12_forward_70 (k := ?_)
    refine ev_getI (x := h.1 12 0 4) fl_X12_272 dX12_forward_71 (K := ?_)
    obtain ⟨⟨hi0, hi1⟩, H⟩ := g_e H
    obtain ⟨h1, eh1, H⟩ := lt_e H
    refine ev_iastore (k := 129) j_ok1 hi0 hi1 eh1 dX12_forward_74 (hc := ac_129) (hlen := ln_129 _ _) (K := ?_)
    refine ev_aload_n 0 dX12_forward_75 (k := ?_)
    refine ev_iconst dX12_forward_76 (k := ?_)
    obtain ⟨h2, eh2, H⟩ := lt_e H
    refine ev_putI j_ok1 fl_X12_272 eh2 dX12_forward_77 (K := ?_)
    refine ev_iconst dX12_forward_80 (k := ?_)
    cases H
    exact ev_ireturn dX12_forward_81
  · rw [if_neg hc] at H
    refine ev_aload_n 0 dX12_forward_40 (k := ?_)
    refine ev_getR (t := 128) (x := some (128, 0)) fl_X12_83 dX12_forward_41 (hx := ry_12_28 _ _) (K := ?_)
    refine ev_bipush dX12_forward_44 (k := ?_)
    refine ev_iload_n 1 dX12_forward_46 (k := ?_)
    refine ev_imul dX12_forward_47 (k := ?_)
    refine ev_iload 2 dX12_forward_48 (k := ?_)
    refine ev_iadd dX12_forward_50 (k := ?_)
    refine ev_aload_n 0 dX12_forward_51 (k := ?_)
    refine ev_getR (t := 103) (x := some (103, 0)) fl_X12_9 dX12_forward_52 (hx := ry_12_3 _ _) (K := ?_)
    refine ev_iload 2 dX12_forward_55 (k := ?_)
    obtain ⟨⟨hi0, hi1⟩, H⟩ := g_e H
    refine ev_iaload (k := 103) hi0 hi1 dX12_forward_57 (hc := ac_103) (hlen := ln_103 _ _) (K := ?_)
    obtain ⟨⟨hi0, hi1⟩, H⟩ := g_e H
    obtain ⟨h3, eh3, H⟩ := lt_e H
    refine ev_iastore (k := 128) j_ok1 hi0 hi1 eh3 dX12_forward_58 (hc := ac_128) (hlen := ln_128 _ _) (K := ?_)
    refine ev_iinc 2 [(4, .inl (w32 (l4 + 1))), (0, .inr (.inr (some (12, 0)))), (3, .inl (l3))] dX12_forward_59 (k := ?_)
    refine ev_goto 31 dX12_forward_62 (k := ?_)
    refine ev_lv [1, 2, 0] [(0, .inr (.inr (some (12, 0)))), (3, .inl (l3)), (4, .inl (w32 (l4 + 1)))] (k := ?_)
    exact hk31 l3 (w32 (l4 + 1)) h3 _ H
theorem E12_forward_31 (n : Nat) : ∀ (l3 : Int) (l4 : Int) (h : JM) (res : (Int × JM)), F12_forward_31 n l3 l4 h = some res → Ev j_W1 3 0 0 T12_forward 31 [(0, .inr (.inr (some (12, 0)))), (3, .inl (l3)), (4, .inl (l4))] [] h (some (.inl res.1)) res.2 := by
  induction n with
  | zero =>
    intro l3 l4 h res H
    cases H
  | succ n ih =>
    intro l3 l4 h res H
    exact E12_forward_31b (F12_forward_31 n) ih l3 l4 h res H
set_option maxRecDepth 100000 in
set_option maxHeartbeats 4000000 in
theorem E12_forward_19 (h : JM) (res : (Int × JM)) (H : F12_forward_19 h = some res) : Ev j_W1 3 0 0 T12_forward 19 [] [] h (some (.inl res.1)) res.2 := by
  unfold F12_forward_19 at H
  refine ev_bipush dX12_forward_19 (k := ?_)
  cases H
  exact ev_ireturn dX12_forward_21
set_option maxRecDepth 100000 in
set_option maxHeartbeats 4000000 in
theorem C12_forward {l1 : Int} {l2 : Int} {h : JM} {res : (Int × JM)} (H : F12_forward l1 l2 h = some res) : Cn j_W1 3 0 0 yX12_forward cX12_forward 5 (some .int) [.inr (.inr (some (12, 0))), .inl (l1), .inl (l2)] h (some (.inl res.1)) res.2 := by
  refine Cn.by (own := RX12) (b := false) [(0, .inr (.inr (some (12, 0)))), (1, .inl (l1)), (2, .inl (l2))] rfl (fun z => by cases z) (by decide +kernel) (K := ?_)
  unfold F12_forward at H
  refine ev_iload_n 1 dX12_forward_0 (k := ?_)
  obtain ⟨q4, hq, H⟩ := bd_e H
  refine ev_callS (mc := 0) (ms := 0) (st := []) (C12_isLine hq) md_X12_isLine ss_X12_isLine ml_X12_288 dX12_forward_1 _ (by decide) (K := ?_)
  refine ev_ifeq 19 dX12_forward_4 (kt := fun hc => ?_) (kf := fun hc => ?_)
  · rw [if_pos hc] at H
    refine ev_lv [] [] (k := ?_)
    exact E12_forward_19 q4.2 _ H
  · rw [if_neg hc] at H
    refine ev_iload_n 2 dX12_forward_7 (k := ?_)
    refine ev_i2l dX12_forward_8 (k := ?_)
    refine ev_lconst (v := 0) dX12_forward_9 (k := ?_)
    refine ev_ldc2 (n := 2) cl_X12_281 dX12_forward_10 (k := ?_)
    obtain ⟨q5, hq, H⟩ := bd_e H
    refine ev_callS (mc := 0) (ms := 0) (st := []) (C12_in hq) md_X12_in ss_X12_in ml_X12_268 dX12_forward_13 _ (by decide) (K := ?_)
    refine ev_ifne 22 dX12_forward_16 (kt := fun hc => ?_) (kf := fun hc => ?_)
    · rw [if_neg hc] at H
      refine ev_iconst dX12_forward_22 (k := ?_)
      refine ev_iload_n 1 dX12_forward_23 (k := ?_)
      refine ev_imul dX12_forward_24 (k := ?_)
      refine ev_iload_n 2 dX12_forward_25 (k := ?_)
      refine ev_iadd dX12_forward_26 (k := ?_)
      obtain ⟨x6, ex6, H⟩ := lt_e H
      refine ev_topI ex6 ?_
      refine ev_istore_n [(3, .inl (x6)), (0, .inr (.inr (some (12, 0)))), (1, .inl (l1)), (2, .inl (l2))] dX12_forward_27 (k := ?_)
      refine ev_iconst dX12_forward_28 (k := ?_)
      refine ev_istore [(4, .inl (0)), (3, .inl (x6)), (0, .inr (.inr (some (12, 0)))), (1, .inl (l1)), (2, .inl (l2))] dX12_forward_29 (k := ?_)
      refine ev_lv [2, 1, 0] [(0, .inr (.inr (some (12, 0)))), (3, .inl (x6)), (4, .inl (0))] (k := ?_)
      exact E12_forward_31 j_fu x6 0 q5.2 _ H
    · rw [if_pos hc] at H
      refine ev_lv [] [] (k := ?_)
      exact E12_forward_19 q5.2 _ H
-- X12_heardOf
abbrev T12_heardOf : JT := (RX12, cX12_heardOf, 2, some .int, false)
set_option maxRecDepth 100000 in
set_option maxHeartbeats 4000000 in
theorem C12_heardOf {l0 : Int} {l1 : Int} {h : JM} {res : (Int × JM)} (H : F12_heardOf l0 l1 h = some res) : Cn j_W1 3 0 0 yX12_heardOf cX12_heardOf 2 (some .int) [.inl (l0), .inl (l1)] h (some (.inl res.1)) res.2 := by
  refine Cn.by (own := RX12) (b := false) [(0, .inl (l0)), (1, .inl (l1))] rfl (fun z => by cases z) (by decide +kernel) (K := ?_)
  unfold F12_heardOf at H
  refine ev_iload_n 0 dX12_heardOf_0 (k := ?_)
  refine ev_iload_n 0 dX12_heardOf_1 (k := ?_)
  refine ev_iload_n 1 dX12_heardOf_2 (k := ?_)
  obtain ⟨q1, hq, H⟩ := bd_e H
  refine ev_callS (mc := 0) (ms := 0) (st := [.inl (l0)]) (C12_codeOf hq) md_X12_codeOf ss_X12_codeOf ml_X12_262 dX12_heardOf_3 _ (by decide) (K := ?_)
  obtain ⟨q2, hq, H⟩ := bd_e H
  refine ev_callS (mc := 0) (ms := 0) (st := []) (C12_back hq) md_X12_back ss_X12_back ml_X12_465 dX12_heardOf_6 _ (by decide) (K := ?_)
  cases H
  exact ev_ireturn dX12_heardOf_9
-- X12_gets
abbrev T12_gets : JT := (RX12, cX12_gets, 5, none, false)
set_option maxRecDepth 100000 in
set_option maxHeartbeats 4000000 in
theorem C12_gets {l1 : Int} {l2 : Int} {l3 : Int} {h : JM} {res : JM} (H : F12_gets l1 l2 l3 h = some res) : Cn j_W1 4 0 0 yX12_gets cX12_gets 5 none [.inr (.inr (some (12, 0))), .inl (l1), .inl (l2), .inl (l3)] h none res := by
  refine Cn.by (own := RX12) (b := false) [(0, .inr (.inr (some (12, 0)))), (1, .inl (l1)), (2, .inl (l2)), (3, .inl (l3))] rfl (fun z => by cases z) (by decide +kernel) (K := ?_)
  unfold F12_gets at H
  refine ev_aload_n 0 dX12_gets_0 (k := ?_)
  refine ev_getR (t := 135) (x := some (135, 0)) fl_X12_101 dX12_gets_1 (hx := ry_12_35 _ _) (K := ?_)
  refine ev_iload_n 1 dX12_gets_4 (k := ?_)
  obtain ⟨⟨hi0, hi1⟩, H⟩ := g_e H
  refine ev_iaload (k := 135) hi0 hi1 dX12_gets_5 (hc := ac_135) (hlen := ln_135 _ _) (K := ?_)
  obtain ⟨x1, ex1, H⟩ := lt_e H
  refine ev_topI ex1 ?_
  refine ev_istore [(4, .inl (x1)), (0, .inr (.inr (some (12, 0)))), (1, .inl (l1)), (2, .inl (l2)), (3, .inl (l3))] dX12_gets_6 (k := ?_)
  refine ev_iload_n 3 dX12_gets_8 (k := ?_)
  obtain ⟨q2, hq, H⟩ := bd_e H
  refine ev_callS (mc := 0) (ms := 0) (st := []) (C12_isCircuit hq) md_X12_isCircuit ss_X12_isCircuit ml_X12_379 dX12_gets_9 _ (by decide) (K := ?_)
  refine ev_ifeq 38 dX12_gets_12 (kt := fun hc => ?_) (kf := fun hc => ?_)
  · rw [if_pos hc] at H
    refine ev_aload_n 1 dX12_gets_38 (k := ?_)
    refine ev_getR (t := 119) (x := some (119, 0)) fl_X12_56 dX12_gets_39 (hx := ry_12_19 _ _) (K := ?_)
    refine ev_iload_n 3 dX12_gets_42 (k := ?_)
    obtain ⟨⟨hi0, hi1⟩, H⟩ := g_e H
    refine ev_iaload (k := 119) hi0 hi1 dX12_gets_43 (hc := ac_119) (hlen := ln_119 _ _) (K := ?_)
    refine ev_iload_n 2 dX12_gets_44 (k := ?_)
    refine ev_icmpne 60 dX12_gets_45 (kt := fun hc => ?_) (kf := fun hc => ?_)
    · rw [if_neg hc] at H
      cases H
      exact ev_return dX12_gets_60
    · rw [if_pos hc] at H
      refine ev_aload_n 1 dX12_gets_48 (k := ?_)
      refine ev_getR (t := 131) (x := some (131, 0)) fl_X12_92 dX12_gets_49 (hx := ry_12_31 _ _) (K := ?_)
      refine ev_iload_n 3 dX12_gets_52 (k := ?_)
      refine ev_iload 0 dX12_gets_53 (k := ?_)
      refine ev_iload_n 4 dX12_gets_55 (k := ?_)
      obtain ⟨q3, hq, H⟩ := bd_e H
      refine ev_callS (mc := 0) (ms := 0) (st := [.inl (l2), .inr (.inr (some (131, 0)))]) (C12_heardOf hq) md_X12_heardOf ss_X12_heardOf ml_X12_468 dX12_gets_56 _ (by decide) (K := ?_)
      obtain ⟨⟨hi0, hi1⟩, H⟩ := g_e H
      obtain ⟨h4, eh4, H⟩ := lt_e H
      refine ev_iastore (k := 131) j_ok1 hi0 hi1 eh4 dX12_gets_59 (hc := ac_131) (hlen := ln_131 _ _) (K := ?_)
      cases H
      exact ev_return dX12_gets_60
  · rw [if_neg hc] at H
    refine ev_aload_n 1 dX12_gets_15 (k := ?_)
    refine ev_getR (t := 185) (x := some (185, 0)) fl_X12_237 dX12_gets_16 (hx := ry_12_85 _ _) (K := ?_)
    refine ev_bipush dX12_gets_19 (k := ?_)
    refine ev_iload 0 dX12_gets_21 (k := ?_)
    refine ev_imul dX12_gets_23 (k := ?_)
    refine ev_iload_n 3 dX12_gets_24 (k := ?_)
    refine ev_iadd dX12_gets_25 (k := ?_)
    refine ev_bipush dX12_gets_26 (k := ?_)
    refine ev_isub dX12_gets_28 (k := ?_)
    refine ev_iconst dX12_gets_29 (k := ?_)
    refine ev_iload_n 4 dX12_gets_30 (k := ?_)
    obtain ⟨q5, hq, H⟩ := bd_e H
    refine ev_callS (mc := 0) (ms := 0) (st := [.inl (w32 ((w32 ((w32 (16 * x1)) + l2)) - 100)), .inr (.inr (some (185, 0)))]) (C12_codeOf hq) md_X12_codeOf ss_X12_codeOf ml_X12_262 dX12_gets_31 _ (by decide) (K := ?_)
    obtain ⟨⟨hi0, hi1⟩, H⟩ := g_e H
    obtain ⟨h6, eh6, H⟩ := lt_e H
    refine ev_iastore (k := 185) j_ok1 hi0 hi1 eh6 dX12_gets_34 (hc := ac_185) (hlen := ln_185 _ _) (K := ?_)
    refine ev_goto 60 dX12_gets_35 (k := ?_)
    cases H
    exact ev_return dX12_gets_60
-- X12_given
abbrev T12_given : JT := (RX12, cX12_given, 4, some .int, false)
set_option maxRecDepth 100000 in
set_option maxHeartbeats 4000000 in
theorem C12_given {l1 : Int} {l2 : Int} {h : JM} {res : (Int × JM)} (H : F12_given l1 l2 h = some res) : Cn j_W1 4 0 0 yX12_given cX12_given 4 (some .int) [.inr (.inr (some (12, 0))), .inl (l1), .inl (l2)] h (some (.inl res.1)) res.2 := by
  refine Cn.by (own := RX12) (b := false) [(0, .inr (.inr (some (12, 0)))), (1, .inl (l1)), (2, .inl (l2))] rfl (fun z => by cases z) (by decide +kernel) (K := ?_)
  unfold F12_given at H
  refine ev_aload_n 0 dX12_given_0 (k := ?_)
  refine ev_getR (t := 135) (x := some (135, 0)) fl_X12_101 dX12_given_1 (hx := ry_12_35 _ _) (K := ?_)
  refine ev_iload_n 1 dX12_given_4 (k := ?_)
  obtain ⟨⟨hi0, hi1⟩, H⟩ := g_e H
  refine ev_iaload (k := 135) hi0 hi1 dX12_given_5 (hc := ac_135) (hlen := ln_135 _ _) (K := ?_)
  obtain ⟨x1, ex1, H⟩ := lt_e H
  refine ev_topI ex1 ?_
  refine ev_istore_n [(3, .inl (x1)), (0, .inr (.inr (some (12, 0)))), (1, .inl (l1)), (2, .inl (l2))] dX12_given_6 (k := ?_)
  refine ev_iload_n 3 dX12_given_7 (k := ?_)
  obtain ⟨q2, hq, H⟩ := bd_e H
  refine ev_callS (mc := 0) (ms := 0) (st := []) (C12_isCircuit hq) md_X12_isCircuit ss_X12_isCircuit ml_X12_379 dX12_given_8 _ (by decide) (K := ?_)
  refine ev_ifeq 35 dX12_given_11 (kt := fun hc => ?_) (kf := fun hc => ?_)
  · rw [if_pos hc] at H
    refine ev_aload_n 1 dX12_given_35 (k := ?_)
    refine ev_getR (t := 119) (x := some (119, 0)) fl_X12_56 dX12_given_36 (hx := ry_12_19 _ _) (K := ?_)
    refine ev_iload_n 3 dX12_given_39 (k := ?_)
    obtain ⟨⟨hi0, hi1⟩, H⟩ := g_e H
    refine ev_iaload (k := 119) hi0 hi1 dX12_given_40 (hc := ac_119) (hlen := ln_119 _ _) (K := ?_)
    refine ev_iload_n 2 dX12_given_41 (k := ?_)
    refine ev_icmpne 58 dX12_given_42 (kt := fun hc => ?_) (kf := fun hc => ?_)
    · rw [if_neg hc] at H
      refine ev_iconst dX12_given_58 (k := ?_)
      cases H
      exact ev_ireturn dX12_given_59
    · rw [if_pos hc] at H
      refine ev_iload_n 0 dX12_given_45 (k := ?_)
      refine ev_aload_n 1 dX12_given_46 (k := ?_)
      refine ev_getR (t := 130) (x := some (130, 0)) fl_X12_89 dX12_given_47 (hx := ry_12_30 _ _) (K := ?_)
      refine ev_iload_n 3 dX12_given_50 (k := ?_)
      obtain ⟨⟨hi0, hi1⟩, H⟩ := g_e H
      refine ev_iaload (k := 130) hi0 hi1 dX12_given_51 (hc := ac_130) (hlen := ln_130 _ _) (K := ?_)
      obtain ⟨q3, hq, H⟩ := bd_e H
      refine ev_callS (mc := 0) (ms := 0) (st := []) (C12_heardOf hq) md_X12_heardOf ss_X12_heardOf ml_X12_468 dX12_given_52 _ (by decide) (K := ?_)
      refine ev_goto 59 dX12_given_55 (k := ?_)
      cases H
      exact ev_ireturn dX12_given_59
  · rw [if_neg hc] at H
    refine ev_iconst dX12_given_14 (k := ?_)
    refine ev_aload_n 1 dX12_given_15 (k := ?_)
    refine ev_getR (t := 184) (x := some (184, 0)) fl_X12_234 dX12_given_16 (hx := ry_12_84 _ _) (K := ?_)
    refine ev_bipush dX12_given_19 (k := ?_)
    refine ev_iconst dX12_given_21 (k := ?_)
    refine ev_iload_n 0 dX12_given_22 (k := ?_)
    refine ev_isub dX12_given_23 (k := ?_)
    refine ev_imul dX12_given_24 (k := ?_)
    refine ev_iload_n 3 dX12_given_25 (k := ?_)
    refine ev_iadd dX12_given_26 (k := ?_)
    refine ev_bipush dX12_given_27 (k := ?_)
    refine ev_isub dX12_given_29 (k := ?_)
    obtain ⟨⟨hi0, hi1⟩, H⟩ := g_e H
    refine ev_iaload (k := 184) hi0 hi1 dX12_given_30 (hc := ac_184) (hlen := ln_184 _ _) (K := ?_)
    obtain ⟨q4, hq, H⟩ := bd_e H
    refine ev_callS (mc := 0) (ms := 0) (st := []) (C12_back hq) md_X12_back ss_X12_back ml_X12_465 dX12_given_31 _ (by decide) (K := ?_)
    cases H
    exact ev_ireturn dX12_given_34
