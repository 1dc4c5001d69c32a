-- X12_unitComes
abbrev T12_unitComes : JT := (RX12, cX12_unitComes, 7, none, false)
set_option maxRecDepth 100000 in
set_option maxHeartbeats 4000000 in
theorem E12_unitComes_290 (l1 : Int) (l4 : Int) (h : JM) (res : JM) (H : F12_unitComes_290 l1 l4 h = some res) : Ev j_W1 91 0 0 T12_unitComes 290 [(0, .inr (.inr (some (12, 0)))), (1, .inl (l1)), (4, .inl (l4))] [] h none res := by
  unfold F12_unitComes_290 at H
  refine ev_iload (M := T12_unitComes) (pc := 290) 2 dX12_unitComes_290 (k := ?_)
  refine ev_ifeq (M := T12_unitComes) (pc := 292) 309 dX12_unitComes_292 (kt := fun hc => ?_) (kf := fun hc => ?_)
  · replace H := if_pe hc H
    cases H
    exact ev_return (M := T12_unitComes) (pc := 309) dX12_unitComes_309
  · replace H := if_ne hc H
    refine ev_aload_n (M := T12_unitComes) (pc := 295) 0 dX12_unitComes_295 (k := ?_)
    refine ev_getR (M := T12_unitComes) (pc := 296) (t := 166) (x := some (166, 0)) fl_X12_191 dX12_unitComes_296 (hx := ry_12_66 _ _) (K := ?_)
    refine ev_iload_n (M := T12_unitComes) (pc := 299) 1 dX12_unitComes_299 (k := ?_)
    refine ev_iconst (M := T12_unitComes) (pc := 300) dX12_unitComes_300 (k := ?_)
    refine ev_aload_n (M := T12_unitComes) (pc := 301) 0 dX12_unitComes_301 (k := ?_)
    refine ev_getR (M := T12_unitComes) (pc := 302) (t := 166) (x := some (166, 0)) fl_X12_191 dX12_unitComes_302 (hx := ry_12_66 _ _) (K := ?_)
    refine ev_iload_n (M := T12_unitComes) (pc := 305) 1 dX12_unitComes_305 (k := ?_)
    obtain ⟨⟨hi0, hi1⟩, H1⟩ := g_e H
    clear H
    refine ev_iaload (M := T12_unitComes) (pc := 306) (k := 166) hi0 hi1 dX12_unitComes_306 (hc := ac_166) (hlen := ln_166 _ _) (K := ?_)
    refine ev_isub (M := T12_unitComes) (pc := 307) dX12_unitComes_307 (k := ?_)
    obtain ⟨⟨hi0, hi1⟩, H2⟩ := g_e H1
    clear H1
    obtain ⟨h1, eh1, H3⟩ := lt_e H2
    clear H2
    refine ev_iastore (M := T12_unitComes) (pc := 308) (k := 166) j_ok1 hi0 hi1 eh1 dX12_unitComes_308 (hc := ac_166) (hlen := ln_166 _ _) (K := ?_)
    cases H3
    exact ev_return (M := T12_unitComes) (pc := 309) dX12_unitComes_309
set_option maxRecDepth 100000 in
set_option maxHeartbeats 4000000 in
theorem E12_unitComes_246b (k246 : Int → Int → Int → JM → Option JM) (hk246 : ∀ (l1 : Int) (l5 : Int) (l6 : Int) (h : JM) (res : JM), k246 l1 l5 l6 h = some res → Ev j_W1 91 0 0 T12_unitComes 246 [(0, .inr (.inr (some (12, 0)))), (1, .inl (l1)), (5, .inl (l5)), (6, .inl (l6))] [] h none res) (l1 : Int) (l5 : Int) (l6 : Int) (h : JM) (res : JM) (H : F12_unitComes_246b k246 l1 l5 l6 h = some res) : Ev j_W1 91 0 0 T12_unitComes 246 [(0, .inr (.inr (some (12, 0)))), (1, .inl (l1)), (5, .inl (l5)), (6, .inl (l6))] [] h none res := by
  unfold F12_unitComes_246b at H
  refine ev_iload (M := T12_unitComes) (pc := 246) 3 dX12_unitComes_246 (k := ?_)
  refine ev_iload (M := T12_unitComes) (pc := 248) 2 dX12_unitComes_248 (k := ?_)
  refine ev_icmpge (M := T12_unitComes) (pc := 250) 280 dX12_unitComes_250 (kt := fun hc => ?_) (kf := fun hc => ?_)
  · replace H := if_pe hc H
    refine ev_aload_n (M := T12_unitComes) (pc := 280) 0 dX12_unitComes_280 (k := ?_)
    refine ev_iload_n (M := T12_unitComes) (pc := 281) 1 dX12_unitComes_281 (k := ?_)
    refine ev_iload (M := T12_unitComes) (pc := 282) 2 dX12_unitComes_282 (k := ?_)
    obtain ⟨h2, hq, H1⟩ := bd_e H
    clear H
    refine ev_callV (M := T12_unitComes) (pc := 284) (mc := 0) (ms := 0) (st := []) (C12_comes hq) md_X12_comes im_X12_comes se_X12_comes ml_X12_459 dX12_unitComes_284 _ (by decide) (K := ?_)
    refine ev_goto (M := T12_unitComes) (pc := 287) 309 dX12_unitComes_287 (k := ?_)
    cases H1
    exact ev_return (M := T12_unitComes) (pc := 309) dX12_unitComes_309
  · replace H := if_ne hc H
    refine ev_aload_n (M := T12_unitComes) (pc := 253) 0 dX12_unitComes_253 (k := ?_)
    refine ev_getR (M := T12_unitComes) (pc := 254) (t := 168) (x := some (168, 0)) fl_X12_197 dX12_unitComes_254 (hx := ry_12_68 _ _) (K := ?_)
    refine ev_iload (M := T12_unitComes) (pc := 257) 3 dX12_unitComes_257 (k := ?_)
    refine ev_aload_n (M := T12_unitComes) (pc := 259) 0 dX12_unitComes_259 (k := ?_)
    refine ev_bipush (M := T12_unitComes) (pc := 260) dX12_unitComes_260 (k := ?_)
    refine ev_bipush (M := T12_unitComes) (pc := 262) dX12_unitComes_262 (k := ?_)
    refine ev_iload (M := T12_unitComes) (pc := 264) 3 dX12_unitComes_264 (k := ?_)
    refine ev_imul (M := T12_unitComes) (pc := 266) dX12_unitComes_266 (k := ?_)
    refine ev_iadd (M := T12_unitComes) (pc := 267) dX12_unitComes_267 (k := ?_)
    refine ev_bipush (M := T12_unitComes) (pc := 268) dX12_unitComes_268 (k := ?_)
    obtain ⟨q3, hq, H1⟩ := bd_e H
    clear H
    refine ev_callV (M := T12_unitComes) (pc := 270) (mc := 0) (ms := 0) (st := [.inl (l6), .inr (.inr (some (168, 0)))]) (C12_read hq) md_X12_read im_X12_read se_X12_read ml_X12_450 dX12_unitComes_270 _ (by decide) (K := ?_)
    obtain ⟨⟨hi0, hi1⟩, H2⟩ := g_e H1
    clear H1
    obtain ⟨h4, eh4, H3⟩ := lt_e H2
    clear H2
    refine ev_iastore (M := T12_unitComes) (pc := 273) (k := 168) j_ok1 hi0 hi1 eh4 dX12_unitComes_273 (hc := ac_168) (hlen := ln_168 _ _) (K := ?_)
    refine ev_iinc (M := T12_unitComes) (pc := 274) 3 [(6, .inl (w32 (l6 + 1))), (0, .inr (.inr (some (12, 0)))), (1, .inl (l1)), (5, .inl (l5))] dX12_unitComes_274 (k := ?_)
    refine ev_goto (M := T12_unitComes) (pc := 277) 246 dX12_unitComes_277 (k := ?_)
    refine ev_lv [1, 2, 3, 0] [(0, .inr (.inr (some (12, 0)))), (1, .inl (l1)), (5, .inl (l5)), (6, .inl (w32 (l6 + 1)))] (k := ?_)
    exact hk246 l1 l5 (w32 (l6 + 1)) h4 _ H3
theorem E12_unitComes_246 (n : Nat) : ∀ (l1 : Int) (l5 : Int) (l6 : Int) (h : JM) (res : JM), F12_unitComes_246 n l1 l5 l6 h = some res → Ev j_W1 91 0 0 T12_unitComes 246 [(0, .inr (.inr (some (12, 0)))), (1, .inl (l1)), (5, .inl (l5)), (6, .inl (l6))] [] h none res := by
  induction n with
  | zero =>
    intro l1 l5 l6 h res H
    cases H
  | succ n ih =>
    intro l1 l5 l6 h res H
    exact E12_unitComes_246b (F12_unitComes_246 n) ih l1 l5 l6 h res H
set_option maxRecDepth 100000 in
set_option maxHeartbeats 4000000 in
theorem E12_unitComes_175 (l1 : Int) (h : JM) (res : JM) (H : F12_unitComes_175 l1 h = some res) : Ev j_W1 91 0 0 T12_unitComes 175 [(0, .inr (.inr (some (12, 0)))), (1, .inl (l1))] [] h none res := by
  unfold F12_unitComes_175 at H
  refine ev_aload_n (M := T12_unitComes) (pc := 175) 0 dX12_unitComes_175 (k := ?_)
  refine ev_bipush (M := T12_unitComes) (pc := 176) dX12_unitComes_176 (k := ?_)
  refine ev_iconst (M := T12_unitComes) (pc := 178) dX12_unitComes_178 (k := ?_)
  obtain ⟨q5, hq, H1⟩ := bd_e H
  clear H
  refine ev_callV (M := T12_unitComes) (pc := 179) (mc := 0) (ms := 0) (st := []) (C12_read hq) md_X12_read im_X12_read se_X12_read ml_X12_450 dX12_unitComes_179 _ (by decide) (K := ?_)
  refine ev_aload_n (M := T12_unitComes) (pc := 182) 0 dX12_unitComes_182 (k := ?_)
  refine ev_getR (M := T12_unitComes) (pc := 183) (t := 166) (x := some (166, 0)) fl_X12_191 dX12_unitComes_183 (hx := ry_12_66 _ _) (K := ?_)
  refine ev_iload_n (M := T12_unitComes) (pc := 186) 1 dX12_unitComes_186 (k := ?_)
  obtain ⟨⟨hi0, hi1⟩, H2⟩ := g_e H1
  clear H1
  refine ev_iaload (M := T12_unitComes) (pc := 187) (k := 166) hi0 hi1 dX12_unitComes_187 (hc := ac_166) (hlen := ln_166 _ _) (K := ?_)
  refine ev_icmpeq (M := T12_unitComes) (pc := 188) 192 dX12_unitComes_188 (kt := fun hc => ?_) (kf := fun hc => ?_)
  · replace H2 := if_pe hc H2
    refine ev_aload_n (M := T12_unitComes) (pc := 192) 0 dX12_unitComes_192 (k := ?_)
    refine ev_bipush (M := T12_unitComes) (pc := 193) dX12_unitComes_193 (k := ?_)
    refine ev_bipush (M := T12_unitComes) (pc := 195) dX12_unitComes_195 (k := ?_)
    obtain ⟨q6, hq, H3⟩ := bd_e H2
    clear H2
    refine ev_callV (M := T12_unitComes) (pc := 197) (mc := 0) (ms := 0) (st := []) (C12_read hq) md_X12_read im_X12_read se_X12_read ml_X12_450 dX12_unitComes_197 _ (by decide) (K := ?_)
    refine ev_aload_n (M := T12_unitComes) (pc := 200) 0 dX12_unitComes_200 (k := ?_)
    refine ev_getR (M := T12_unitComes) (pc := 201) (t := 164) (x := some (164, 0)) fl_X12_185 dX12_unitComes_201 (hx := ry_12_64 _ _) (K := ?_)
    refine ev_iload_n (M := T12_unitComes) (pc := 204) 1 dX12_unitComes_204 (k := ?_)
    obtain ⟨⟨hi0, hi1⟩, H4⟩ := g_e H3
    clear H3
    refine ev_iaload (M := T12_unitComes) (pc := 205) (k := 164) hi0 hi1 dX12_unitComes_205 (hc := ac_164) (hlen := ln_164 _ _) (K := ?_)
    refine ev_isub (M := T12_unitComes) (pc := 206) dX12_unitComes_206 (k := ?_)
    obtain ⟨q7, hq, H5⟩ := bd_e H4
    clear H4
    refine ev_callS (M := T12_unitComes) (pc := 207) (mc := 0) (ms := 0) (st := []) (C12_modulo hq) md_X12_modulo ss_X12_modulo ml_X12_456 dX12_unitComes_207 _ (by decide) (K := ?_)
    refine ev_istore (M := T12_unitComes) (pc := 210) [(4, .inl (q7.1)), (0, .inr (.inr (some (12, 0)))), (1, .inl (l1))] dX12_unitComes_210 (k := ?_)
    refine ev_aload_n (M := T12_unitComes) (pc := 212) 1 dX12_unitComes_212 (k := ?_)
    refine ev_bipush (M := T12_unitComes) (pc := 213) dX12_unitComes_213 (k := ?_)
    refine ev_bipush (M := T12_unitComes) (pc := 215) dX12_unitComes_215 (k := ?_)
    obtain ⟨q8, hq, H6⟩ := bd_e H5
    clear H5
    refine ev_callV (M := T12_unitComes) (pc := 217) (mc := 0) (ms := 0) (st := []) (C12_read hq) md_X12_read im_X12_read se_X12_read ml_X12_450 dX12_unitComes_217 _ (by decide) (K := ?_)
    refine ev_istore (M := T12_unitComes) (pc := 220) [(5, .inl (q8.1)), (4, .inl (q7.1)), (0, .inr (.inr (some (12, 0)))), (1, .inl (l1))] dX12_unitComes_220 (k := ?_)
    refine ev_iload (M := T12_unitComes) (pc := 222) 1 dX12_unitComes_222 (k := ?_)
    refine ev_iconst (M := T12_unitComes) (pc := 224) dX12_unitComes_224 (k := ?_)
    refine ev_icmpne (M := T12_unitComes) (pc := 225) 290 dX12_unitComes_225 (kt := fun hc => ?_) (kf := fun hc => ?_)
    · replace H6 := if_ne hc H6
      refine ev_lv [2, 3, 1] [(0, .inr (.inr (some (12, 0)))), (1, .inl (l1)), (4, .inl (q7.1))] (k := ?_)
      exact E12_unitComes_290 l1 q7.1 q8.2 _ H6
    · replace H6 := if_pe hc H6
      refine ev_iload (M := T12_unitComes) (pc := 228) 0 dX12_unitComes_228 (k := ?_)
      refine ev_ifle (M := T12_unitComes) (pc := 230) 290 dX12_unitComes_230 (kt := fun hc => ?_) (kf := fun hc => ?_)
      · replace H6 := if_pe hc H6
        refine ev_lv [2, 3, 1] [(0, .inr (.inr (some (12, 0)))), (1, .inl (l1)), (4, .inl (q7.1))] (k := ?_)
        exact E12_unitComes_290 l1 q7.1 q8.2 _ H6
      · replace H6 := if_ne hc H6
        refine ev_aload_n (M := T12_unitComes) (pc := 233) 2 dX12_unitComes_233 (k := ?_)
        refine ev_getR (M := T12_unitComes) (pc := 234) (t := 164) (x := some (164, 0)) fl_X12_185 dX12_unitComes_234 (hx := ry_12_64 _ _) (K := ?_)
        refine ev_iload_n (M := T12_unitComes) (pc := 237) 3 dX12_unitComes_237 (k := ?_)
        refine ev_dup2 (M := T12_unitComes) (pc := 238) dX12_unitComes_238 (k := ?_)
        obtain ⟨⟨hi0, hi1⟩, H7⟩ := g_e H6
        clear H6
        refine ev_iaload (M := T12_unitComes) (pc := 239) (k := 164) hi0 hi1 dX12_unitComes_239 (hc := ac_164) (hlen := ln_164 _ _) (K := ?_)
        refine ev_iconst (M := T12_unitComes) (pc := 240) dX12_unitComes_240 (k := ?_)
        refine ev_iadd (M := T12_unitComes) (pc := 241) dX12_unitComes_241 (k := ?_)
        obtain ⟨⟨hi0, hi1⟩, H8⟩ := g_e H7
        clear H7
        obtain ⟨h9, eh9, H9⟩ := lt_e H8
        clear H8
        refine ev_iastore (M := T12_unitComes) (pc := 242) (k := 164) j_ok1 hi0 hi1 eh9 dX12_unitComes_242 (hc := ac_164) (hlen := ln_164 _ _) (K := ?_)
        refine ev_iconst (M := T12_unitComes) (pc := 243) dX12_unitComes_243 (k := ?_)
        refine ev_istore (M := T12_unitComes) (pc := 244) [(6, .inl (0)), (5, .inl (q8.1)), (4, .inl (q7.1)), (0, .inr (.inr (some (12, 0)))), (1, .inl (l1))] dX12_unitComes_244 (k := ?_)
        refine ev_lv [3, 4, 1, 0] [(0, .inr (.inr (some (12, 0)))), (1, .inl (l1)), (5, .inl (q8.1)), (6, .inl (0))] (k := ?_)
        exact E12_unitComes_246 j_fu l1 q8.1 0 h9 _ H9
  · replace H2 := if_ne hc H2
    cases H2
    exact ev_return (M := T12_unitComes) (pc := 191) dX12_unitComes_191
set_option maxRecDepth 100000 in
set_option maxHeartbeats 4000000 in
theorem E12_unitComes_133 (l1 : Int) (s0 : Option Int) (s1 : Int) (s2 : Int) (h : JM) (res : JM) (H : F12_unitComes_133 l1 s0 s1 s2 h = some res) : Ev j_W1 91 0 0 T12_unitComes 133 [(0, .inr (.inr (some (12, 0)))), (1, .inl (l1))] [.inl (s2), .inl (s1), .inr (.inr (Option.map (Prod.mk 162) (s0)))] h none res := by
  unfold F12_unitComes_133 at H
  obtain ⟨a10, ea10, H1⟩ := bd_e H
  clear H
  rw [ea10]
  obtain ⟨⟨hi0, hi1⟩, H2⟩ := g_e H1
  clear H1
  obtain ⟨h11, eh11, H3⟩ := lt_e H2
  clear H2
  refine ev_iastore (M := T12_unitComes) (pc := 133) (k := 162) j_ok1 hi0 hi1 eh11 dX12_unitComes_133 (hc := ac_162) (hlen := ln_162 _ _) (K := ?_)
  refine ev_aload_n (M := T12_unitComes) (pc := 134) 0 dX12_unitComes_134 (k := ?_)
  refine ev_bipush (M := T12_unitComes) (pc := 135) dX12_unitComes_135 (k := ?_)
  refine ev_iconst (M := T12_unitComes) (pc := 137) dX12_unitComes_137 (k := ?_)
  obtain ⟨q12, hq, H4⟩ := bd_e H3
  clear H3
  refine ev_callV (M := T12_unitComes) (pc := 138) (mc := 0) (ms := 0) (st := []) (C12_read hq) md_X12_read im_X12_read se_X12_read ml_X12_450 dX12_unitComes_138 _ (by decide) (K := ?_)
  refine ev_aload_n (M := T12_unitComes) (pc := 141) 0 dX12_unitComes_141 (k := ?_)
  refine ev_getR (M := T12_unitComes) (pc := 142) (t := 165) (x := some (165, 0)) fl_X12_188 dX12_unitComes_142 (hx := ry_12_65 _ _) (K := ?_)
  refine ev_iload_n (M := T12_unitComes) (pc := 145) 1 dX12_unitComes_145 (k := ?_)
  obtain ⟨⟨hi0, hi1⟩, H5⟩ := g_e H4
  clear H4
  refine ev_iaload (M := T12_unitComes) (pc := 146) (k := 165) hi0 hi1 dX12_unitComes_146 (hc := ac_165) (hlen := ln_165 _ _) (K := ?_)
  refine ev_icmpeq (M := T12_unitComes) (pc := 147) 175 dX12_unitComes_147 (kt := fun hc => ?_) (kf := fun hc => ?_)
  · replace H5 := if_pe hc H5
    exact E12_unitComes_175 l1 q12.2 _ H5
  · replace H5 := if_ne hc H5
    refine ev_aload_n (M := T12_unitComes) (pc := 150) 0 dX12_unitComes_150 (k := ?_)
    refine ev_getR (M := T12_unitComes) (pc := 151) (t := 165) (x := some (165, 0)) fl_X12_188 dX12_unitComes_151 (hx := ry_12_65 _ _) (K := ?_)
    refine ev_iload_n (M := T12_unitComes) (pc := 154) 1 dX12_unitComes_154 (k := ?_)
    refine ev_aload_n (M := T12_unitComes) (pc := 155) 0 dX12_unitComes_155 (k := ?_)
    refine ev_bipush (M := T12_unitComes) (pc := 156) dX12_unitComes_156 (k := ?_)
    refine ev_iconst (M := T12_unitComes) (pc := 158) dX12_unitComes_158 (k := ?_)
    obtain ⟨q13, hq, H6⟩ := bd_e H5
    clear H5
    refine ev_callV (M := T12_unitComes) (pc := 159) (mc := 0) (ms := 0) (st := [.inl (l1), .inr (.inr (some (165, 0)))]) (C12_read hq) md_X12_read im_X12_read se_X12_read ml_X12_450 dX12_unitComes_159 _ (by decide) (K := ?_)
    obtain ⟨⟨hi0, hi1⟩, H7⟩ := g_e H6
    clear H6
    obtain ⟨h14, eh14, H8⟩ := lt_e H7
    clear H7
    refine ev_iastore (M := T12_unitComes) (pc := 162) (k := 165) j_ok1 hi0 hi1 eh14 dX12_unitComes_162 (hc := ac_165) (hlen := ln_165 _ _) (K := ?_)
    refine ev_aload_n (M := T12_unitComes) (pc := 163) 0 dX12_unitComes_163 (k := ?_)
    refine ev_getR (M := T12_unitComes) (pc := 164) (t := 162) (x := some (162, 0)) fl_X12_179 dX12_unitComes_164 (hx := ry_12_62 _ _) (K := ?_)
    refine ev_iload_n (M := T12_unitComes) (pc := 167) 1 dX12_unitComes_167 (k := ?_)
    refine ev_aload_n (M := T12_unitComes) (pc := 168) 0 dX12_unitComes_168 (k := ?_)
    refine ev_getR (M := T12_unitComes) (pc := 169) (t := 161) (x := some (161, 0)) fl_X12_176 dX12_unitComes_169 (hx := ry_12_61 _ _) (K := ?_)
    refine ev_iload_n (M := T12_unitComes) (pc := 172) 1 dX12_unitComes_172 (k := ?_)
    obtain ⟨⟨hi0, hi1⟩, H9⟩ := g_e H8
    clear H8
    refine ev_iaload (M := T12_unitComes) (pc := 173) (k := 161) hi0 hi1 dX12_unitComes_173 (hc := ac_161) (hlen := ln_161 _ _) (K := ?_)
    obtain ⟨⟨hi0, hi1⟩, H10⟩ := g_e H9
    clear H9
    obtain ⟨h15, eh15, H11⟩ := lt_e H10
    clear H10
    refine ev_iastore (M := T12_unitComes) (pc := 174) (k := 162) j_ok1 hi0 hi1 eh15 dX12_unitComes_174 (hc := ac_162) (hlen := ln_162 _ _) (K := ?_)
    exact E12_unitComes_175 l1 h15 _ H11
set_option maxRecDepth 100000 in
set_option maxHeartbeats 4000000 in
theorem C12_unitComes {l1 : Int} {h : JM} {res : JM} (H : F12_unitComes l1 h = some res) : Cn j_W1 91 0 0 yX12_unitComes cX12_unitComes 7 none [.inr (.inr (some (12, 0))), .inl (l1)] h none res := by
  refine Cn.by (own := RX12) (b := false) [(0, .inr (.inr (some (12, 0)))), (1, .inl (l1))] rfl (fun z => by cases z) (by decide +kernel) (K := ?_)
  unfold F12_unitComes at H
  refine ev_iconst (M := T12_unitComes) (pc := 0) dX12_unitComes_0 (k := ?_)
  refine ev_iconst (M := T12_unitComes) (pc := 1) dX12_unitComes_1 (k := ?_)
  refine ev_iload_n (M := T12_unitComes) (pc := 2) 1 dX12_unitComes_2 (k := ?_)
  refine ev_isub (M := T12_unitComes) (pc := 3) dX12_unitComes_3 (k := ?_)
  refine ev_imul (M := T12_unitComes) (pc := 4) dX12_unitComes_4 (k := ?_)
  refine ev_aload_n (M := T12_unitComes) (pc := 5) 0 dX12_unitComes_5 (k := ?_)
  refine ev_getI (M := T12_unitComes) (pc := 6) (x := h.1 12 0 2) fl_X12_285 dX12_unitComes_6 (K := ?_)
  refine ev_iconst (M := T12_unitComes) (pc := 9) dX12_unitComes_9 (k := ?_)
  refine ev_iadd (M := T12_unitComes) (pc := 10) dX12_unitComes_10 (k := ?_)
  refine ev_iconst (M := T12_unitComes) (pc := 11) dX12_unitComes_11 (k := ?_)
  refine ev_irem (M := T12_unitComes) (pc := 12) dX12_unitComes_12 (by decide) (k := ?_)
  refine ev_iadd (M := T12_unitComes) (pc := 13) dX12_unitComes_13 (k := ?_)
  obtain ⟨x16, ex16, H1⟩ := lt_e H
  clear H
  refine ev_topI ex16 ?_
  refine ev_istore_n (M := T12_unitComes) (pc := 14) [(2, .inl (x16)), (0, .inr (.inr (some (12, 0)))), (1, .inl (l1))] dX12_unitComes_14 (k := ?_)
  refine ev_aload_n (M := T12_unitComes) (pc := 15) 1 dX12_unitComes_15 (k := ?_)
  refine ev_getI (M := T12_unitComes) (pc := 16) (x := h.1 12 0 2) fl_X12_285 dX12_unitComes_16 (K := ?_)
  refine ev_iconst (M := T12_unitComes) (pc := 19) dX12_unitComes_19 (k := ?_)
  refine ev_icmplt (M := T12_unitComes) (pc := 20) 32 dX12_unitComes_20 (kt := fun hc => ?_) (kf := fun hc => ?_)
  · replace H1 := if_pe hc H1
    cases H1
    exact ev_return (M := T12_unitComes) (pc := 32) dX12_unitComes_32
  · replace H1 := if_ne hc H1
    refine ev_aload_n (M := T12_unitComes) (pc := 23) 1 dX12_unitComes_23 (k := ?_)
    refine ev_getR (M := T12_unitComes) (pc := 24) (t := 174) (x := some (174, 0)) fl_X12_213 dX12_unitComes_24 (hx := ry_12_74 _ _) (K := ?_)
    refine ev_iload_n (M := T12_unitComes) (pc := 27) 0 dX12_unitComes_27 (k := ?_)
    obtain ⟨⟨hi0, hi1⟩, H2⟩ := g_e H1
    clear H1
    refine ev_iaload (M := T12_unitComes) (pc := 28) (k := 174) hi0 hi1 dX12_unitComes_28 (hc := ac_174) (hlen := ln_174 _ _) (K := ?_)
    refine ev_ifne (M := T12_unitComes) (pc := 29) 33 dX12_unitComes_29 (kt := fun hc => ?_) (kf := fun hc => ?_)
    · replace H2 := if_ne hc H2
      refine ev_aload_n (M := T12_unitComes) (pc := 33) 1 dX12_unitComes_33 (k := ?_)
      refine ev_iload_n (M := T12_unitComes) (pc := 34) 0 dX12_unitComes_34 (k := ?_)
      obtain ⟨q17, hq, H3⟩ := bd_e H2
      clear H2
      refine ev_callV (M := T12_unitComes) (pc := 35) (mc := 0) (ms := 0) (st := []) (C12_isRight hq) md_X12_isRight im_X12_isRight se_X12_isRight ml_X12_453 dX12_unitComes_35 _ (by decide) (K := ?_)
      refine ev_ifne (M := T12_unitComes) (pc := 38) 52 dX12_unitComes_38 (kt := fun hc => ?_) (kf := fun hc => ?_)
      · replace H3 := if_ne hc H3
        refine ev_aload_n (M := T12_unitComes) (pc := 52) 1 dX12_unitComes_52 (k := ?_)
        refine ev_iconst (M := T12_unitComes) (pc := 53) dX12_unitComes_53 (k := ?_)
        refine ev_bipush (M := T12_unitComes) (pc := 54) dX12_unitComes_54 (k := ?_)
        obtain ⟨q18, hq, H4⟩ := bd_e H3
        clear H3
        refine ev_callV (M := T12_unitComes) (pc := 56) (mc := 0) (ms := 0) (st := []) (C12_read hq) md_X12_read im_X12_read se_X12_read ml_X12_450 dX12_unitComes_56 _ (by decide) (K := ?_)
        refine ev_aload_n (M := T12_unitComes) (pc := 59) 1 dX12_unitComes_59 (k := ?_)
        refine ev_getR (M := T12_unitComes) (pc := 60) (t := 161) (x := some (161, 0)) fl_X12_176 dX12_unitComes_60 (hx := ry_12_61 _ _) (K := ?_)
        refine ev_iload_n (M := T12_unitComes) (pc := 63) 2 dX12_unitComes_63 (k := ?_)
        obtain ⟨⟨hi0, hi1⟩, H5⟩ := g_e H4
        clear H4
        refine ev_iaload (M := T12_unitComes) (pc := 64) (k := 161) hi0 hi1 dX12_unitComes_64 (hc := ac_161) (hlen := ln_161 _ _) (K := ?_)
        refine ev_isub (M := T12_unitComes) (pc := 65) dX12_unitComes_65 (k := ?_)
        obtain ⟨q19, hq, H6⟩ := bd_e H5
        clear H5
        refine ev_callS (M := T12_unitComes) (pc := 66) (mc := 0) (ms := 0) (st := []) (C12_modulo hq) md_X12_modulo ss_X12_modulo ml_X12_456 dX12_unitComes_66 _ (by decide) (K := ?_)
        refine ev_istore_n (M := T12_unitComes) (pc := 69) [(3, .inl (q19.1)), (2, .inl (x16)), (0, .inr (.inr (some (12, 0)))), (1, .inl (l1))] dX12_unitComes_69 (k := ?_)
        refine ev_iload_n (M := T12_unitComes) (pc := 70) 0 dX12_unitComes_70 (k := ?_)
        refine ev_aload_n (M := T12_unitComes) (pc := 71) 2 dX12_unitComes_71 (k := ?_)
        refine ev_getR (M := T12_unitComes) (pc := 72) (t := 163) (x := some (163, 0)) fl_X12_182 dX12_unitComes_72 (hx := ry_12_63 _ _) (K := ?_)
        refine ev_iload_n (M := T12_unitComes) (pc := 75) 3 dX12_unitComes_75 (k := ?_)
        obtain ⟨⟨hi0, hi1⟩, H7⟩ := g_e H6
        clear H6
        refine ev_iaload (M := T12_unitComes) (pc := 76) (k := 163) hi0 hi1 dX12_unitComes_76 (hc := ac_163) (hlen := ln_163 _ _) (K := ?_)
        refine ev_aload_n (M := T12_unitComes) (pc := 77) 2 dX12_unitComes_77 (k := ?_)
        refine ev_getR (M := T12_unitComes) (pc := 78) (t := 161) (x := some (161, 0)) fl_X12_176 dX12_unitComes_78 (hx := ry_12_61 _ _) (K := ?_)
        refine ev_iload_n (M := T12_unitComes) (pc := 81) 3 dX12_unitComes_81 (k := ?_)
        obtain ⟨⟨hi0, hi1⟩, H8⟩ := g_e H7
        clear H7
        refine ev_iaload (M := T12_unitComes) (pc := 82) (k := 161) hi0 hi1 dX12_unitComes_82 (hc := ac_161) (hlen := ln_161 _ _) (K := ?_)
        refine ev_isub (M := T12_unitComes) (pc := 83) dX12_unitComes_83 (k := ?_)
        refine ev_icmple (M := T12_unitComes) (pc := 84) 88 dX12_unitComes_84 (kt := fun hc => ?_) (kf := fun hc => ?_)
        · replace H8 := if_pe hc H8
          refine ev_aload_n (M := T12_unitComes) (pc := 88) 2 dX12_unitComes_88 (k := ?_)
          refine ev_getR (M := T12_unitComes) (pc := 89) (t := 161) (x := some (161, 0)) fl_X12_176 dX12_unitComes_89 (hx := ry_12_61 _ _) (K := ?_)
          refine ev_iload_n (M := T12_unitComes) (pc := 92) 3 dX12_unitComes_92 (k := ?_)
          refine ev_dup2 (M := T12_unitComes) (pc := 93) dX12_unitComes_93 (k := ?_)
          obtain ⟨⟨hi0, hi1⟩, H9⟩ := g_e H8
          clear H8
          refine ev_iaload (M := T12_unitComes) (pc := 94) (k := 161) hi0 hi1 dX12_unitComes_94 (hc := ac_161) (hlen := ln_161 _ _) (K := ?_)
          refine ev_iload_n (M := T12_unitComes) (pc := 95) 0 dX12_unitComes_95 (k := ?_)
          refine ev_iadd (M := T12_unitComes) (pc := 96) dX12_unitComes_96 (k := ?_)
          obtain ⟨⟨hi0, hi1⟩, H10⟩ := g_e H9
          clear H9
          obtain ⟨h20, eh20, H11⟩ := lt_e H10
          clear H10
          refine ev_iastore (M := T12_unitComes) (pc := 97) (k := 161) j_ok1 hi0 hi1 eh20 dX12_unitComes_97 (hc := ac_161) (hlen := ln_161 _ _) (K := ?_)
          refine ev_aload_n (M := T12_unitComes) (pc := 98) 2 dX12_unitComes_98 (k := ?_)
          refine ev_getR (M := T12_unitComes) (pc := 99) (t := 162) (x := some (162, 0)) fl_X12_179 dX12_unitComes_99 (hx := ry_12_62 _ _) (K := ?_)
          refine ev_iload_n (M := T12_unitComes) (pc := 102) 3 dX12_unitComes_102 (k := ?_)
          refine ev_aload_n (M := T12_unitComes) (pc := 103) 2 dX12_unitComes_103 (k := ?_)
          refine ev_getR (M := T12_unitComes) (pc := 104) (t := 162) (x := some (162, 0)) fl_X12_179 dX12_unitComes_104 (hx := ry_12_62 _ _) (K := ?_)
          refine ev_iload_n (M := T12_unitComes) (pc := 107) 3 dX12_unitComes_107 (k := ?_)
          obtain ⟨⟨hi0, hi1⟩, H12⟩ := g_e H11
          clear H11
          refine ev_iaload (M := T12_unitComes) (pc := 108) (k := 162) hi0 hi1 dX12_unitComes_108 (hc := ac_162) (hlen := ln_162 _ _) (K := ?_)
          refine ev_aload_n (M := T12_unitComes) (pc := 109) 2 dX12_unitComes_109 (k := ?_)
          refine ev_getR (M := T12_unitComes) (pc := 110) (t := 161) (x := some (161, 0)) fl_X12_176 dX12_unitComes_110 (hx := ry_12_61 _ _) (K := ?_)
          refine ev_iload_n (M := T12_unitComes) (pc := 113) 3 dX12_unitComes_113 (k := ?_)
          obtain ⟨⟨hi0, hi1⟩, H13⟩ := g_e H12
          clear H12
          refine ev_iaload (M := T12_unitComes) (pc := 114) (k := 161) hi0 hi1 dX12_unitComes_114 (hc := ac_161) (hlen := ln_161 _ _) (K := ?_)
          refine ev_icmpge (M := T12_unitComes) (pc := 115) 127 dX12_unitComes_115 (kt := fun hc => ?_) (kf := fun hc => ?_)
          · replace H13 := if_pe hc H13
            refine ev_aload_n (M := T12_unitComes) (pc := 127) 2 dX12_unitComes_127 (k := ?_)
            refine ev_getR (M := T12_unitComes) (pc := 128) (t := 162) (x := some (162, 0)) fl_X12_179 dX12_unitComes_128 (hx := ry_12_62 _ _) (K := ?_)
            refine ev_iload_n (M := T12_unitComes) (pc := 131) 3 dX12_unitComes_131 (k := ?_)
            obtain ⟨⟨hi0, hi1⟩, H14⟩ := g_e H13
            clear H13
            refine ev_iaload (M := T12_unitComes) (pc := 132) (k := 162) hi0 hi1 dX12_unitComes_132 (hc := ac_162) (hlen := ln_162 _ _) (K := ?_)
            refine ev_lv [2, 3] [(0, .inr (.inr (some (12, 0)))), (1, .inl (l1))] (k := ?_)
            exact E12_unitComes_133 l1 (some 0) l1 (h20.1 162 0 l1) h20 _ H14
          · replace H13 := if_ne hc H13
            refine ev_aload_n (M := T12_unitComes) (pc := 118) 2 dX12_unitComes_118 (k := ?_)
            refine ev_getR (M := T12_unitComes) (pc := 119) (t := 161) (x := some (161, 0)) fl_X12_176 dX12_unitComes_119 (hx := ry_12_61 _ _) (K := ?_)
            refine ev_iload_n (M := T12_unitComes) (pc := 122) 3 dX12_unitComes_122 (k := ?_)
            obtain ⟨⟨hi0, hi1⟩, H14⟩ := g_e H13
            clear H13
            refine ev_iaload (M := T12_unitComes) (pc := 123) (k := 161) hi0 hi1 dX12_unitComes_123 (hc := ac_161) (hlen := ln_161 _ _) (K := ?_)
            refine ev_goto (M := T12_unitComes) (pc := 124) 133 dX12_unitComes_124 (k := ?_)
            refine ev_lv [2, 3] [(0, .inr (.inr (some (12, 0)))), (1, .inl (l1))] (k := ?_)
            exact E12_unitComes_133 l1 (some 0) l1 (h20.1 161 0 l1) h20 _ H14
        · replace H8 := if_ne hc H8
          cases H8
          exact ev_return (M := T12_unitComes) (pc := 87) dX12_unitComes_87
      · replace H3 := if_pe hc H3
        refine ev_aload_n (M := T12_unitComes) (pc := 41) 1 dX12_unitComes_41 (k := ?_)
        refine ev_getR (M := T12_unitComes) (pc := 42) (t := 167) (x := some (167, 0)) fl_X12_194 dX12_unitComes_42 (hx := ry_12_67 _ _) (K := ?_)
        refine ev_iload_n (M := T12_unitComes) (pc := 45) 2 dX12_unitComes_45 (k := ?_)
        refine ev_dup2 (M := T12_unitComes) (pc := 46) dX12_unitComes_46 (k := ?_)
        obtain ⟨⟨hi0, hi1⟩, H4⟩ := g_e H3
        clear H3
        refine ev_iaload (M := T12_unitComes) (pc := 47) (k := 167) hi0 hi1 dX12_unitComes_47 (hc := ac_167) (hlen := ln_167 _ _) (K := ?_)
        refine ev_iconst (M := T12_unitComes) (pc := 48) dX12_unitComes_48 (k := ?_)
        refine ev_iadd (M := T12_unitComes) (pc := 49) dX12_unitComes_49 (k := ?_)
        obtain ⟨⟨hi0, hi1⟩, H5⟩ := g_e H4
        clear H4
        obtain ⟨h21, eh21, H6⟩ := lt_e H5
        clear H5
        refine ev_iastore (M := T12_unitComes) (pc := 50) (k := 167) j_ok1 hi0 hi1 eh21 dX12_unitComes_50 (hc := ac_167) (hlen := ln_167 _ _) (K := ?_)
        cases H6
        exact ev_return (M := T12_unitComes) (pc := 51) dX12_unitComes_51
    · replace H2 := if_pe hc H2
      cases H2
      exact ev_return (M := T12_unitComes) (pc := 32) dX12_unitComes_32
-- X12_tick
abbrev T12_tick : JT := (RX12, cX12_tick, 4, some .int, false)
set_option maxRecDepth 100000 in
set_option maxHeartbeats 4000000 in
theorem E12_tick_72b (k32 : Int → Int → JM → Option (Int × JM)) (hk32 : ∀ (l1 : Int) (l2 : Int) (h : JM) (res : (Int × JM)), k32 l1 l2 h = some res → Ev j_W1 94 0 0 T12_tick 32 [(0, .inr (.inr (some (12, 0)))), (1, .inl (l1)), (2, .inl (l2))] [] h (some (.inl res.1)) res.2) (k72 : Int → Int → Int → JM → Option (Int × JM)) (hk72 : ∀ (l1 : Int) (l2 : Int) (l3 : Int) (h : JM) (res : (Int × JM)), k72 l1 l2 l3 h = some res → Ev j_W1 94 0 0 T12_tick 72 [(0, .inr (.inr (some (12, 0)))), (1, .inl (l1)), (2, .inl (l2)), (3, .inl (l3))] [] h (some (.inl res.1)) res.2) (l1 : Int) (l2 : Int) (l3 : Int) (h : JM) (res : (Int × JM)) (H : F12_tick_72b k32 k72 l1 l2 l3 h = some res) : Ev j_W1 94 0 0 T12_tick 72 [(0, .inr (.inr (some (12, 0)))), (1, .inl (l1)), (2, .inl (l2)), (3, .inl (l3))] [] h (some (.inl res.1)) res.2 := by
  unfold F12_tick_72b at H
  refine ev_iload_n (M := T12_tick) (pc := 72) 3 dX12_tick_72 (k := ?_)
  refine ev_bipush (M := T12_tick) (pc := 73) dX12_tick_73 (k := ?_)
  refine ev_icmpge (M := T12_tick) (pc := 75) 89 dX12_tick_75 (kt := fun hc => ?_) (kf := fun hc => ?_)
  · replace H := if_pe hc H
    refine ev_aload_n (M := T12_tick) (pc := 89) 0 dX12_tick_89 (k := ?_)
    obtain ⟨h1, hq, H1⟩ := bd_e H
    clear H
    refine ev_callV (M := T12_tick) (pc := 90) (mc := 0) (ms := 0) (st := []) (C12_speaks hq) md_X12_speaks im_X12_speaks se_X12_speaks ml_X12_502 dX12_tick_90 _ (by decide) (K := ?_)
    refine ev_aload_n (M := T12_tick) (pc := 93) 0 dX12_tick_93 (k := ?_)
    refine ev_iconst (M := T12_tick) (pc := 94) dX12_tick_94 (k := ?_)
    obtain ⟨h2, hq, H2⟩ := bd_e H1
    clear H1
    refine ev_callV (M := T12_tick) (pc := 95) (mc := 0) (ms := 0) (st := []) (C12_sends hq) md_X12_sends im_X12_sends se_X12_sends ml_X12_505 dX12_tick_95 _ (by decide) (K := ?_)
    refine ev_aload_n (M := T12_tick) (pc := 98) 0 dX12_tick_98 (k := ?_)
    refine ev_iconst (M := T12_tick) (pc := 99) dX12_tick_99 (k := ?_)
    obtain ⟨h3, hq, H3⟩ := bd_e H2
    clear H2
    refine ev_callV (M := T12_tick) (pc := 100) (mc := 0) (ms := 0) (st := []) (C12_sends hq) md_X12_sends im_X12_sends se_X12_sends ml_X12_505 dX12_tick_100 _ (by decide) (K := ?_)
    refine ev_aload_n (M := T12_tick) (pc := 103) 0 dX12_tick_103 (k := ?_)
    refine ev_dup (M := T12_tick) (pc := 104) dX12_tick_104 (k := ?_)
    refine ev_getI (M := T12_tick) (pc := 105) (x := h3.1 12 0 2) fl_X12_285 dX12_tick_105 (K := ?_)
    refine ev_iconst (M := T12_tick) (pc := 108) dX12_tick_108 (k := ?_)
    refine ev_iadd (M := T12_tick) (pc := 109) dX12_tick_109 (k := ?_)
    obtain ⟨h4, eh4, H4⟩ := lt_e H3
    clear H3
    refine ev_putI (M := T12_tick) (pc := 110) j_ok1 fl_X12_285 eh4 dX12_tick_110 (K := ?_)
    refine ev_iinc (M := T12_tick) (pc := 113) 2 [(2, .inl (w32 (l2 + 1))), (0, .inr (.inr (some (12, 0)))), (1, .inl (l1)), (3, .inl (l3))] dX12_tick_113 (k := ?_)
    refine ev_goto (M := T12_tick) (pc := 116) 32 dX12_tick_116 (k := ?_)
    refine ev_lv [1, 2, 0] [(0, .inr (.inr (some (12, 0)))), (1, .inl (l1)), (2, .inl (w32 (l2 + 1)))] (k := ?_)
    exact hk32 l1 (w32 (l2 + 1)) h4 _ H4
  · replace H := if_ne hc H
    refine ev_aload_n (M := T12_tick) (pc := 78) 0 dX12_tick_78 (k := ?_)
    refine ev_iload_n (M := T12_tick) (pc := 79) 3 dX12_tick_79 (k := ?_)
    obtain ⟨h5, hq, H1⟩ := bd_e H
    clear H
    refine ev_callV (M := T12_tick) (pc := 80) (mc := 0) (ms := 0) (st := []) (C12_serves hq) md_X12_serves im_X12_serves se_X12_serves ml_X12_499 dX12_tick_80 _ (by decide) (K := ?_)
    refine ev_iinc (M := T12_tick) (pc := 83) 3 [(3, .inl (w32 (l3 + 1))), (0, .inr (.inr (some (12, 0)))), (1, .inl (l1)), (2, .inl (l2))] dX12_tick_83 (k := ?_)
    refine ev_goto (M := T12_tick) (pc := 86) 72 dX12_tick_86 (k := ?_)
    refine ev_lv [1, 2, 3, 0] [(0, .inr (.inr (some (12, 0)))), (1, .inl (l1)), (2, .inl (l2)), (3, .inl (w32 (l3 + 1)))] (k := ?_)
    exact hk72 l1 l2 (w32 (l3 + 1)) h5 _ H1
theorem E12_tick_72 (k32 : Int → Int → JM → Option (Int × JM)) (hk32 : ∀ (l1 : Int) (l2 : Int) (h : JM) (res : (Int × JM)), k32 l1 l2 h = some res → Ev j_W1 94 0 0 T12_tick 32 [(0, .inr (.inr (some (12, 0)))), (1, .inl (l1)), (2, .inl (l2))] [] h (some (.inl res.1)) res.2) (n : Nat) : ∀ (l1 : Int) (l2 : Int) (l3 : Int) (h : JM) (res : (Int × JM)), F12_tick_72 k32 n l1 l2 l3 h = some res → Ev j_W1 94 0 0 T12_tick 72 [(0, .inr (.inr (some (12, 0)))), (1, .inl (l1)), (2, .inl (l2)), (3, .inl (l3))] [] h (some (.inl res.1)) res.2 := by
  induction n with
  | zero =>
    intro l1 l2 l3 h res H
    cases H
  | succ n ih =>
    intro l1 l2 l3 h res H
    exact E12_tick_72b k32 hk32 (F12_tick_72 k32 n) ih l1 l2 l3 h res H
set_option maxRecDepth 100000 in
set_option maxHeartbeats 4000000 in
theorem E12_tick_49b (k32 : Int → Int → JM → Option (Int × JM)) (hk32 : ∀ (l1 : Int) (l2 : Int) (h : JM) (res : (Int × JM)), k32 l1 l2 h = some res → Ev j_W1 94 0 0 T12_tick 32 [(0, .inr (.inr (some (12, 0)))), (1, .inl (l1)), (2, .inl (l2))] [] h (some (.inl res.1)) res.2) (k49 : Int → Int → Int → JM → Option (Int × JM)) (hk49 : ∀ (l1 : Int) (l2 : Int) (l3 : Int) (h : JM) (res : (Int × JM)), k49 l1 l2 l3 h = some res → Ev j_W1 94 0 0 T12_tick 49 [(0, .inr (.inr (some (12, 0)))), (1, .inl (l1)), (2, .inl (l2)), (3, .inl (l3))] [] h (some (.inl res.1)) res.2) (l1 : Int) (l2 : Int) (l3 : Int) (h : JM) (res : (Int × JM)) (H : F12_tick_49b k32 k49 l1 l2 l3 h = some res) : Ev j_W1 94 0 0 T12_tick 49 [(0, .inr (.inr (some (12, 0)))), (1, .inl (l1)), (2, .inl (l2)), (3, .inl (l3))] [] h (some (.inl res.1)) res.2 := by
  unfold F12_tick_49b at H
  refine ev_iload_n (M := T12_tick) (pc := 49) 3 dX12_tick_49 (k := ?_)
  refine ev_bipush (M := T12_tick) (pc := 50) dX12_tick_50 (k := ?_)
  refine ev_icmpge (M := T12_tick) (pc := 52) 66 dX12_tick_52 (kt := fun hc => ?_) (kf := fun hc => ?_)
  · replace H := if_pe hc H
    refine ev_aload_n (M := T12_tick) (pc := 66) 0 dX12_tick_66 (k := ?_)
    obtain ⟨h6, hq, H1⟩ := bd_e H
    clear H
    refine ev_callV (M := T12_tick) (pc := 67) (mc := 0) (ms := 0) (st := []) (C12_timesOfAll hq) md_X12_timesOfAll im_X12_timesOfAll se_X12_timesOfAll ml_X12_496 dX12_tick_67 _ (by decide) (K := ?_)
    refine ev_iconst (M := T12_tick) (pc := 70) dX12_tick_70 (k := ?_)
    refine ev_istore_n (M := T12_tick) (pc := 71) [(3, .inl (0)), (0, .inr (.inr (some (12, 0)))), (1, .inl (l1)), (2, .inl (l2))] dX12_tick_71 (k := ?_)
    refine ev_lv [1, 2, 3, 0] [(0, .inr (.inr (some (12, 0)))), (1, .inl (l1)), (2, .inl (l2)), (3, .inl (0))] (k := ?_)
    exact E12_tick_72 k32 hk32 j_fu l1 l2 0 h6 _ H1
  · replace H := if_ne hc H
    refine ev_aload_n (M := T12_tick) (pc := 55) 0 dX12_tick_55 (k := ?_)
    refine ev_iload_n (M := T12_tick) (pc := 56) 3 dX12_tick_56 (k := ?_)
    obtain ⟨h7, hq, H1⟩ := bd_e H
    clear H
    refine ev_callV (M := T12_tick) (pc := 57) (mc := 0) (ms := 0) (st := []) (C12_looks hq) md_X12_looks im_X12_looks se_X12_looks ml_X12_493 dX12_tick_57 _ (by decide) (K := ?_)
    refine ev_iinc (M := T12_tick) (pc := 60) 3 [(3, .inl (w32 (l3 + 1))), (0, .inr (.inr (some (12, 0)))), (1, .inl (l1)), (2, .inl (l2))] dX12_tick_60 (k := ?_)
    refine ev_goto (M := T12_tick) (pc := 63) 49 dX12_tick_63 (k := ?_)
    refine ev_lv [1, 2, 3, 0] [(0, .inr (.inr (some (12, 0)))), (1, .inl (l1)), (2, .inl (l2)), (3, .inl (w32 (l3 + 1)))] (k := ?_)
    exact hk49 l1 l2 (w32 (l3 + 1)) h7 _ H1
theorem E12_tick_49 (k32 : Int → Int → JM → Option (Int × JM)) (hk32 : ∀ (l1 : Int) (l2 : Int) (h : JM) (res : (Int × JM)), k32 l1 l2 h = some res → Ev j_W1 94 0 0 T12_tick 32 [(0, .inr (.inr (some (12, 0)))), (1, .inl (l1)), (2, .inl (l2))] [] h (some (.inl res.1)) res.2) (n : Nat) : ∀ (l1 : Int) (l2 : Int) (l3 : Int) (h : JM) (res : (Int × JM)), F12_tick_49 k32 n l1 l2 l3 h = some res → Ev j_W1 94 0 0 T12_tick 49 [(0, .inr (.inr (some (12, 0)))), (1, .inl (l1)), (2, .inl (l2)), (3, .inl (l3))] [] h (some (.inl res.1)) res.2 := by
  induction n with
  | zero =>
    intro l1 l2 l3 h res H
    cases H
  | succ n ih =>
    intro l1 l2 l3 h res H
    exact E12_tick_49b k32 hk32 (F12_tick_49 k32 n) ih l1 l2 l3 h res H
set_option maxRecDepth 100000 in
set_option maxHeartbeats 4000000 in
theorem E12_tick_32b (k32 : Int → Int → JM → Option (Int × JM)) (hk32 : ∀ (l1 : Int) (l2 : Int) (h : JM) (res : (Int × JM)), k32 l1 l2 h = some res → Ev j_W1 94 0 0 T12_tick 32 [(0, .inr (.inr (some (12, 0)))), (1, .inl (l1)), (2, .inl (l2))] [] h (some (.inl res.1)) res.2) (l1 : Int) (l2 : Int) (h : JM) (res : (Int × JM)) (H : F12_tick_32b k32 l1 l2 h = some res) : Ev j_W1 94 0 0 T12_tick 32 [(0, .inr (.inr (some (12, 0)))), (1, .inl (l1)), (2, .inl (l2))] [] h (some (.inl res.1)) res.2 := by
  unfold F12_tick_32b at H
  refine ev_iload_n (M := T12_tick) (pc := 32) 2 dX12_tick_32 (k := ?_)
  refine ev_iload_n (M := T12_tick) (pc := 33) 1 dX12_tick_33 (k := ?_)
  refine ev_icmpge (M := T12_tick) (pc := 34) 119 dX12_tick_34 (kt := fun hc => ?_) (kf := fun hc => ?_)
  · replace H := if_pe hc H
    refine ev_aload_n (M := T12_tick) (pc := 119) 0 dX12_tick_119 (k := ?_)
    refine ev_getI (M := T12_tick) (pc := 120) (x := h.1 12 0 2) fl_X12_285 dX12_tick_120 (K := ?_)
    cases H
    exact ev_ireturn (M := T12_tick) (pc := 123) dX12_tick_123
  · replace H := if_ne hc H
    refine ev_aload_n (M := T12_tick) (pc := 37) 0 dX12_tick_37 (k := ?_)
    refine ev_iconst (M := T12_tick) (pc := 38) dX12_tick_38 (k := ?_)
    obtain ⟨h8, hq, H1⟩ := bd_e H
    clear H
    refine ev_callV (M := T12_tick) (pc := 39) (mc := 0) (ms := 0) (st := []) (C12_unitComes hq) md_X12_unitComes im_X12_unitComes se_X12_unitComes ml_X12_490 dX12_tick_39 _ (by decide) (K := ?_)
    refine ev_aload_n (M := T12_tick) (pc := 42) 0 dX12_tick_42 (k := ?_)
    refine ev_iconst (M := T12_tick) (pc := 43) dX12_tick_43 (k := ?_)
    obtain ⟨h9, hq, H2⟩ := bd_e H1
    clear H1
    refine ev_callV (M := T12_tick) (pc := 44) (mc := 0) (ms := 0) (st := []) (C12_unitComes hq) md_X12_unitComes im_X12_unitComes se_X12_unitComes ml_X12_490 dX12_tick_44 _ (by decide) (K := ?_)
    refine ev_iconst (M := T12_tick) (pc := 47) dX12_tick_47 (k := ?_)
    refine ev_istore_n (M := T12_tick) (pc := 48) [(3, .inl (0)), (0, .inr (.inr (some (12, 0)))), (1, .inl (l1)), (2, .inl (l2))] dX12_tick_48 (k := ?_)
    refine ev_lv [1, 2, 3, 0] [(0, .inr (.inr (some (12, 0)))), (1, .inl (l1)), (2, .inl (l2)), (3, .inl (0))] (k := ?_)
    exact E12_tick_49 k32 hk32 j_fu l1 l2 0 h9 _ H2
theorem E12_tick_32 (n : Nat) : ∀ (l1 : Int) (l2 : Int) (h : JM) (res : (Int × JM)), F12_tick_32 n l1 l2 h = some res → Ev j_W1 94 0 0 T12_tick 32 [(0, .inr (.inr (some (12, 0)))), (1, .inl (l1)), (2, .inl (l2))] [] h (some (.inl res.1)) res.2 := by
  induction n with
  | zero =>
    intro l1 l2 h res H
    cases H
  | succ n ih =>
    intro l1 l2 h res H
    exact E12_tick_32b (F12_tick_32 n) ih l1 l2 h res H
set_option maxRecDepth 100000 in
set_option maxHeartbeats 4000000 in
theorem C12_tick {l1 : Int} {h : JM} {res : (Int × JM)} (H : F12_tick l1 h = some res) : Cn j_W1 94 0 0 yX12_tick cX12_tick 4 (some .int) [.inr (.inr (some (12, 0))), .inl (l1)] h (some (.inl res.1)) res.2 := by
  refine Cn.by (own := RX12) (b := false) [(0, .inr (.inr (some (12, 0)))), (1, .inl (l1))] rfl (fun z => by cases z) (by decide +kernel) (K := ?_)
  unfold F12_tick at H
  refine ev_iload_n (M := T12_tick) (pc := 0) 1 dX12_tick_0 (k := ?_)
  refine ev_i2l (M := T12_tick) (pc := 1) dX12_tick_1 (k := ?_)
  refine ev_lconst (M := T12_tick) (pc := 2) (v := 1) dX12_tick_2 (k := ?_)
  refine ev_ldc2 (M := T12_tick) (pc := 3) (n := 1000) cl_X12_482 dX12_tick_3 (hv := cw_X12_482) (k := ?_)
  obtain ⟨q10, hq, H1⟩ := bd_e H
  clear H
  refine ev_callS (M := T12_tick) (pc := 6) (mc := 0) (ms := 0) (st := []) (C12_in hq) md_X12_in ss_X12_in ml_X12_268 dX12_tick_6 _ (by decide) (K := ?_)
  refine ev_ifne (M := T12_tick) (pc := 9) 15 dX12_tick_9 (kt := fun hc => ?_) (kf := fun hc => ?_)
  · replace H1 := if_ne hc H1
    refine ev_aload_n (M := T12_tick) (pc := 15) 0 dX12_tick_15 (k := ?_)
    refine ev_getI (M := T12_tick) (pc := 16) (x := q10.2.1 12 0 2) fl_X12_285 dX12_tick_16 (K := ?_)
    refine ev_iload_n (M := T12_tick) (pc := 19) 1 dX12_tick_19 (k := ?_)
    refine ev_iadd (M := T12_tick) (pc := 20) dX12_tick_20 (k := ?_)
    refine ev_ldcw (M := T12_tick) (pc := 21) (n := 10000000) ct_X12_489 dX12_tick_21 (hv := cv_X12_489) (k := ?_)
    refine ev_icmple (M := T12_tick) (pc := 24) 30 dX12_tick_24 (kt := fun hc => ?_) (kf := fun hc => ?_)
    · replace H1 := if_pe hc H1
      refine ev_iconst (M := T12_tick) (pc := 30) dX12_tick_30 (k := ?_)
      refine ev_istore_n (M := T12_tick) (pc := 31) [(2, .inl (0)), (0, .inr (.inr (some (12, 0)))), (1, .inl (l1))] dX12_tick_31 (k := ?_)
      refine ev_lv [1, 2, 0] [(0, .inr (.inr (some (12, 0)))), (1, .inl (l1)), (2, .inl (0))] (k := ?_)
      exact E12_tick_32 j_fu l1 0 q10.2 _ H1
    · replace H1 := if_ne hc H1
      refine ev_bipush (M := T12_tick) (pc := 27) dX12_tick_27 (k := ?_)
      cases H1
      exact ev_ireturn (M := T12_tick) (pc := 29) dX12_tick_29
  · replace H1 := if_pe hc H1
    refine ev_bipush (M := T12_tick) (pc := 12) dX12_tick_12 (k := ?_)
    cases H1
    exact ev_ireturn (M := T12_tick) (pc := 14) dX12_tick_14
-- X12_told
abbrev T12_told : JT := (RX12, cX12_told, 4, some .int, false)
set_option maxRecDepth 100000 in
set_option maxHeartbeats 4000000 in
theorem E12_told_122 (k87 : Int → Int → JM → Option (Int × JM)) (hk87 : ∀ (l2 : Int) (l3 : Int) (h : JM) (res : (Int × JM)), k87 l2 l3 h = some res → Ev j_W1 1 0 0 T12_told 87 [(0, .inr (.inr (some (12, 0)))), (2, .inl (l2)), (3, .inl (l3))] [] h (some (.inl res.1)) res.2) (l3 : Int) (s0 : Int) (s1 : Int) (h : JM) (res : (Int × JM)) (H : F12_told_122 k87 l3 s0 s1 h = some res) : Ev j_W1 1 0 0 T12_told 122 [(0, .inr (.inr (some (12, 0)))), (3, .inl (l3))] [.inl (s1), .inl (s0)] h (some (.inl res.1)) res.2 := by
  unfold F12_told_122 at H
  refine ev_iadd (M := T12_told) (pc := 122) dX12_told_122 (k := ?_)
  obtain ⟨x1, ex1, H1⟩ := lt_e H
  clear H
  refine ev_topI ex1 ?_
  refine ev_istore_n (M := T12_told) (pc := 123) [(2, .inl (x1)), (0, .inr (.inr (some (12, 0)))), (3, .inl (l3))] dX12_told_123 (k := ?_)
  refine ev_iinc (M := T12_told) (pc := 124) 2 [(3, .inl (w32 (l3 + 1))), (2, .inl (x1)), (0, .inr (.inr (some (12, 0))))] dX12_told_124 (k := ?_)
  refine ev_goto (M := T12_told) (pc := 127) 87 dX12_told_127 (k := ?_)
  refine ev_lv [2, 1, 0] [(0, .inr (.inr (some (12, 0)))), (2, .inl (x1)), (3, .inl (w32 (l3 + 1)))] (k := ?_)
  exact hk87 x1 (w32 (l3 + 1)) h _ H1
set_option maxRecDepth 100000 in
set_option maxHeartbeats 4000000 in
theorem E12_told_121 (k87 : Int → Int → JM → Option (Int × JM)) (hk87 : ∀ (l2 : Int) (l3 : Int) (h : JM) (res : (Int × JM)), k87 l2 l3 h = some res → Ev j_W1 1 0 0 T12_told 87 [(0, .inr (.inr (some (12, 0)))), (2, .inl (l2)), (3, .inl (l3))] [] h (some (.inl res.1)) res.2) (l3 : Int) (s0 : Int) (h : JM) (res : (Int × JM)) (H : F12_told_121 k87 l3 s0 h = some res) : Ev j_W1 1 0 0 T12_told 121 [(0, .inr (.inr (some (12, 0)))), (3, .inl (l3))] [.inl (s0)] h (some (.inl res.1)) res.2 := by
  unfold F12_told_121 at H
  refine ev_iconst (M := T12_told) (pc := 121) dX12_told_121 (k := ?_)
  exact E12_told_122 k87 hk87 l3 s0 0 h _ H
set_option maxRecDepth 100000 in
set_option maxHeartbeats 4000000 in
theorem E12_told_87b (k87 : Int → Int → JM → Option (Int × JM)) (hk87 : ∀ (l2 : Int) (l3 : Int) (h : JM) (res : (Int × JM)), k87 l2 l3 h = some res → Ev j_W1 1 0 0 T12_told 87 [(0, .inr (.inr (some (12, 0)))), (2, .inl (l2)), (3, .inl (l3))] [] h (some (.inl res.1)) res.2) (l2 : Int) (l3 : Int) (h : JM) (res : (Int × JM)) (H : F12_told_87b k87 l2 l3 h = some res) : Ev j_W1 1 0 0 T12_told 87 [(0, .inr (.inr (some (12, 0)))), (2, .inl (l2)), (3, .inl (l3))] [] h (some (.inl res.1)) res.2 := by
  unfold F12_told_87b at H
  refine ev_iload_n (M := T12_told) (pc := 87) 2 dX12_told_87 (k := ?_)
  refine ev_aload_n (M := T12_told) (pc := 88) 0 dX12_told_88 (k := ?_)
  refine ev_getI (M := T12_told) (pc := 89) (x := h.1 12 0 0) fl_X12_255 dX12_told_89 (K := ?_)
  refine ev_icmpge (M := T12_told) (pc := 92) 130 dX12_told_92 (kt := fun hc => ?_) (kf := fun hc => ?_)
  · replace H := if_pe hc H
    refine ev_iload_n (M := T12_told) (pc := 130) 1 dX12_told_130 (k := ?_)
    cases H
    exact ev_ireturn (M := T12_told) (pc := 131) dX12_told_131
  · replace H := if_ne hc H
    refine ev_iload_n (M := T12_told) (pc := 95) 1 dX12_told_95 (k := ?_)
    refine ev_aload_n (M := T12_told) (pc := 96) 0 dX12_told_96 (k := ?_)
    refine ev_getR (M := T12_told) (pc := 97) (t := 154) (x := some (154, 0)) fl_X12_158 dX12_told_97 (hx := ry_12_54 _ _) (K := ?_)
    refine ev_iload_n (M := T12_told) (pc := 100) 2 dX12_told_100 (k := ?_)
    obtain ⟨⟨hi0, hi1⟩, H1⟩ := g_e H
    clear H
    refine ev_iaload (M := T12_told) (pc := 101) (k := 154) hi0 hi1 dX12_told_101 (hc := ac_154) (hlen := ln_154 _ _) (K := ?_)
    refine ev_ifne (M := T12_told) (pc := 102) 121 dX12_told_102 (kt := fun hc => ?_) (kf := fun hc => ?_)
    · replace H1 := if_ne hc H1
      refine ev_lv [0, 2] [(0, .inr (.inr (some (12, 0)))), (3, .inl (l3))] (k := ?_)
      exact E12_told_121 k87 hk87 l3 l2 h _ H1
    · replace H1 := if_pe hc H1
      refine ev_aload_n (M := T12_told) (pc := 105) 0 dX12_told_105 (k := ?_)
      refine ev_getR (M := T12_told) (pc := 106) (t := 154) (x := some (154, 0)) fl_X12_158 dX12_told_106 (hx := ry_12_54 _ _) (K := ?_)
      refine ev_bipush (M := T12_told) (pc := 109) dX12_told_109 (k := ?_)
      refine ev_iload_n (M := T12_told) (pc := 111) 2 dX12_told_111 (k := ?_)
      refine ev_iadd (M := T12_told) (pc := 112) dX12_told_112 (k := ?_)
      obtain ⟨⟨hi0, hi1⟩, H2⟩ := g_e H1
      clear H1
      refine ev_iaload (M := T12_told) (pc := 113) (k := 154) hi0 hi1 dX12_told_113 (hc := ac_154) (hlen := ln_154 _ _) (K := ?_)
      refine ev_ifne (M := T12_told) (pc := 114) 121 dX12_told_114 (kt := fun hc => ?_) (kf := fun hc => ?_)
      · replace H2 := if_ne hc H2
        refine ev_lv [0, 2] [(0, .inr (.inr (some (12, 0)))), (3, .inl (l3))] (k := ?_)
        exact E12_told_121 k87 hk87 l3 l2 h _ H2
      · replace H2 := if_pe hc H2
        refine ev_iconst (M := T12_told) (pc := 117) dX12_told_117 (k := ?_)
        refine ev_goto (M := T12_told) (pc := 118) 122 dX12_told_118 (k := ?_)
        refine ev_lv [0, 2] [(0, .inr (.inr (some (12, 0)))), (3, .inl (l3))] (k := ?_)
        exact E12_told_122 k87 hk87 l3 l2 1 h _ H2
theorem E12_told_87 (n : Nat) : ∀ (l2 : Int) (l3 : Int) (h : JM) (res : (Int × JM)), F12_told_87 n l2 l3 h = some res → Ev j_W1 1 0 0 T12_told 87 [(0, .inr (.inr (some (12, 0)))), (2, .inl (l2)), (3, .inl (l3))] [] h (some (.inl res.1)) res.2 := by
  induction n with
  | zero =>
    intro l2 l3 h res H
    cases H
  | succ n ih =>
    intro l2 l3 h res H
    exact E12_told_87b (F12_told_87 n) ih l2 l3 h res H
set_option maxRecDepth 100000 in
set_option maxHeartbeats 4000000 in
theorem E12_told_70 (k48 : Int → Int → JM → Option (Int × JM)) (hk48 : ∀ (l2 : Int) (l3 : Int) (h : JM) (res : (Int × JM)), k48 l2 l3 h = some res → Ev j_W1 1 0 0 T12_told 48 [(0, .inr (.inr (some (12, 0)))), (2, .inl (l2)), (3, .inl (l3))] [] h (some (.inl res.1)) res.2) (l3 : Int) (s0 : Int) (s1 : Int) (h : JM) (res : (Int × JM)) (H : F12_told_70 k48 l3 s0 s1 h = some res) : Ev j_W1 1 0 0 T12_told 70 [(0, .inr (.inr (some (12, 0)))), (3, .inl (l3))] [.inl (s1), .inl (s0)] h (some (.inl res.1)) res.2 := by
  unfold F12_told_70 at H
  refine ev_iadd (M := T12_told) (pc := 70) dX12_told_70 (k := ?_)
  obtain ⟨x2, ex2, H1⟩ := lt_e H
  clear H
  refine ev_topI ex2 ?_
  refine ev_istore_n (M := T12_told) (pc := 71) [(2, .inl (x2)), (0, .inr (.inr (some (12, 0)))), (3, .inl (l3))] dX12_told_71 (k := ?_)
  refine ev_iinc (M := T12_told) (pc := 72) 2 [(3, .inl (w32 (l3 + 1))), (2, .inl (x2)), (0, .inr (.inr (some (12, 0))))] dX12_told_72 (k := ?_)
  refine ev_goto (M := T12_told) (pc := 75) 48 dX12_told_75 (k := ?_)
  refine ev_lv [2, 1, 0] [(0, .inr (.inr (some (12, 0)))), (2, .inl (x2)), (3, .inl (w32 (l3 + 1)))] (k := ?_)
  exact hk48 x2 (w32 (l3 + 1)) h _ H1
set_option maxRecDepth 100000 in
set_option maxHeartbeats 4000000 in
theorem E12_told_48b (k48 : Int → Int → JM → Option (Int × JM)) (hk48 : ∀ (l2 : Int) (l3 : Int) (h : JM) (res : (Int × JM)), k48 l2 l3 h = some res → Ev j_W1 1 0 0 T12_told 48 [(0, .inr (.inr (some (12, 0)))), (2, .inl (l2)), (3, .inl (l3))] [] h (some (.inl res.1)) res.2) (l2 : Int) (l3 : Int) (h : JM) (res : (Int × JM)) (H : F12_told_48b k48 l2 l3 h = some res) : Ev j_W1 1 0 0 T12_told 48 [(0, .inr (.inr (some (12, 0)))), (2, .inl (l2)), (3, .inl (l3))] [] h (some (.inl res.1)) res.2 := by
  unfold F12_told_48b at H
  refine ev_iload_n (M := T12_told) (pc := 48) 2 dX12_told_48 (k := ?_)
  refine ev_bipush (M := T12_told) (pc := 49) dX12_told_49 (k := ?_)
  refine ev_icmpge (M := T12_told) (pc := 51) 78 dX12_told_51 (kt := fun hc => ?_) (kf := fun hc => ?_)
  · replace H := if_pe hc H
    refine ev_iload_n (M := T12_told) (pc := 78) 1 dX12_told_78 (k := ?_)
    cases H
    exact ev_ireturn (M := T12_told) (pc := 79) dX12_told_79
  · replace H := if_ne hc H
    refine ev_iload_n (M := T12_told) (pc := 54) 1 dX12_told_54 (k := ?_)
    refine ev_aload_n (M := T12_told) (pc := 55) 0 dX12_told_55 (k := ?_)
    refine ev_getR (M := T12_told) (pc := 56) (t := 133) (x := some (133, 0)) fl_X12_95 dX12_told_56 (hx := ry_12_33 _ _) (K := ?_)
    refine ev_iload_n (M := T12_told) (pc := 59) 2 dX12_told_59 (k := ?_)
    obtain ⟨⟨hi0, hi1⟩, H1⟩ := g_e H
    clear H
    refine ev_iaload (M := T12_told) (pc := 60) (k := 133) hi0 hi1 dX12_told_60 (hc := ac_133) (hlen := ln_133 _ _) (K := ?_)
    refine ev_iconst (M := T12_told) (pc := 61) dX12_told_61 (k := ?_)
    refine ev_icmpne (M := T12_told) (pc := 62) 69 dX12_told_62 (kt := fun hc => ?_) (kf := fun hc => ?_)
    · replace H1 := if_ne hc H1
      refine ev_iconst (M := T12_told) (pc := 69) dX12_told_69 (k := ?_)
      refine ev_lv [0, 2] [(0, .inr (.inr (some (12, 0)))), (3, .inl (l3))] (k := ?_)
      exact E12_told_70 k48 hk48 l3 l2 1 h _ H1
    · replace H1 := if_pe hc H1
      refine ev_iconst (M := T12_told) (pc := 65) dX12_told_65 (k := ?_)
      refine ev_goto (M := T12_told) (pc := 66) 70 dX12_told_66 (k := ?_)
      refine ev_lv [0, 2] [(0, .inr (.inr (some (12, 0)))), (3, .inl (l3))] (k := ?_)
      exact E12_told_70 k48 hk48 l3 l2 0 h _ H1
theorem E12_told_48 (n : Nat) : ∀ (l2 : Int) (l3 : Int) (h : JM) (res : (Int × JM)), F12_told_48 n l2 l3 h = some res → Ev j_W1 1 0 0 T12_told 48 [(0, .inr (.inr (some (12, 0)))), (2, .inl (l2)), (3, .inl (l3))] [] h (some (.inl res.1)) res.2 := by
  induction n with
  | zero =>
    intro l2 l3 h res H
    cases H
  | succ n ih =>
    intro l2 l3 h res H
    exact E12_told_48b (F12_told_48 n) ih l2 l3 h res H
set_option maxRecDepth 100000 in
set_option maxHeartbeats 4000000 in
theorem C12_told {l1 : Int} {h : JM} {res : (Int × JM)} (H : F12_told l1 h = some res) : Cn j_W1 1 0 0 yX12_told cX12_told 4 (some .int) [.inr (.inr (some (12, 0))), .inl (l1)] h (some (.inl res.1)) res.2 := by
  refine Cn.by (own := RX12) (b := false) [(0, .inr (.inr (some (12, 0)))), (1, .inl (l1))] rfl (fun z => by cases z) (by decide +kernel) (K := ?_)
  unfold F12_told at H
  refine ev_iconst (M := T12_told) (pc := 0) dX12_told_0 (k := ?_)
  refine ev_istore_n (M := T12_told) (pc := 1) [(2, .inl (0)), (0, .inr (.inr (some (12, 0)))), (1, .inl (l1))] dX12_told_1 (k := ?_)
  refine ev_iload_n (M := T12_told) (pc := 2) 2 dX12_told_2 (k := ?_)
  by_cases hs0 : l1 = 0
  · replace H := if_pe hs0 H
    refine ev_tableIn (M := T12_told) (pc := 3) (off := 33) 36 dX12_told_3 (by omega) (by omega) (by rw [hs0]; rfl) (k := ?_)
    refine ev_aload_n (M := T12_told) (pc := 36) 1 dX12_told_36 (k := ?_)
    refine ev_getI (M := T12_told) (pc := 37) (x := h.1 12 0 2) fl_X12_285 dX12_told_37 (K := ?_)
    cases H
    exact ev_ireturn (M := T12_told) (pc := 40) dX12_told_40
  · replace H := if_ne hs0 H
    by_cases hs1 : l1 = 1
    · replace H := if_pe hs1 H
      refine ev_tableIn (M := T12_told) (pc := 3) (off := 38) 41 dX12_told_3 (by omega) (by omega) (by rw [hs1]; rfl) (k := ?_)
      refine ev_aload_n (M := T12_told) (pc := 41) 1 dX12_told_41 (k := ?_)
      refine ev_getI (M := T12_told) (pc := 42) (x := h.1 12 0 32) fl_X12_334 dX12_told_42 (K := ?_)
      cases H
      exact ev_ireturn (M := T12_told) (pc := 45) dX12_told_45
    · replace H := if_ne hs1 H
      by_cases hs2 : l1 = 2
      · replace H := if_pe hs2 H
        refine ev_tableIn (M := T12_told) (pc := 3) (off := 43) 46 dX12_told_3 (by omega) (by omega) (by rw [hs2]; rfl) (k := ?_)
        refine ev_iconst (M := T12_told) (pc := 46) dX12_told_46 (k := ?_)
        refine ev_istore_n (M := T12_told) (pc := 47) [(3, .inl (0)), (2, .inl (0)), (0, .inr (.inr (some (12, 0)))), (1, .inl (l1))] dX12_told_47 (k := ?_)
        refine ev_lv [2, 1, 0] [(0, .inr (.inr (some (12, 0)))), (2, .inl (0)), (3, .inl (0))] (k := ?_)
        exact E12_told_48 j_fu 0 0 h _ H
      · replace H := if_ne hs2 H
        by_cases hs3 : l1 = 3
        · replace H := if_pe hs3 H
          refine ev_tableIn (M := T12_told) (pc := 3) (off := 77) 80 dX12_told_3 (by omega) (by omega) (by rw [hs3]; rfl) (k := ?_)
          refine ev_aload_n (M := T12_told) (pc := 80) 1 dX12_told_80 (k := ?_)
          refine ev_getI (M := T12_told) (pc := 81) (x := h.1 12 0 90) fl_X12_486 dX12_told_81 (K := ?_)
          cases H
          exact ev_ireturn (M := T12_told) (pc := 84) dX12_told_84
        · replace H := if_ne hs3 H
          by_cases hs4 : l1 = 4
          · replace H := if_pe hs4 H
            refine ev_tableIn (M := T12_told) (pc := 3) (off := 82) 85 dX12_told_3 (by omega) (by omega) (by rw [hs4]; rfl) (k := ?_)
            refine ev_iconst (M := T12_told) (pc := 85) dX12_told_85 (k := ?_)
            refine ev_istore_n (M := T12_told) (pc := 86) [(3, .inl (0)), (2, .inl (0)), (0, .inr (.inr (some (12, 0)))), (1, .inl (l1))] dX12_told_86 (k := ?_)
            refine ev_lv [2, 1, 0] [(0, .inr (.inr (some (12, 0)))), (2, .inl (0)), (3, .inl (0))] (k := ?_)
            exact E12_told_87 j_fu 0 0 h _ H
          · replace H := if_ne hs4 H
            refine ev_tableOut (M := T12_told) (pc := 3) 132 dX12_told_3 (by omega) (k := ?_)
            refine ev_bipush (M := T12_told) (pc := 132) dX12_told_132 (k := ?_)
            cases H
            exact ev_ireturn (M := T12_told) (pc := 134) dX12_told_134
