-- X12_line
abbrev T12_line : JT := (RX12, cX12_line, 5, some .int, false)
set_option maxRecDepth 100000 in
set_option maxHeartbeats 4000000 in
theorem E12_line_19 (h : JM) (res : (Int × JM)) (H : F12_line_19 h = some res) : Ev j_W1 3 0 0 T12_line 19 [] [] h (some (.inl res.1)) res.2 := by
  unfold F12_line_19 at H
  refine ev_bipush dX12_line_19 (k := ?_)
  cases H
  exact ev_ireturn dX12_line_21
set_option maxRecDepth 100000 in
set_option maxHeartbeats 4000000 in
theorem C12_line {l1 : Int} {l2 : Int} {h : JM} {res : (Int × JM)} (H : F12_line l1 l2 h = some res) : Cn j_W1 3 0 0 yX12_line cX12_line 5 (some .int) [.inr (.inr (some (12, 0))), .inl (l1), .inl (l2)] h (some (.inl res.1)) res.2 := by
  refine Cn.by (own := RX12) (b := false) [(0, .inr (.inr (some (12, 0)))), (1, .inl (l1)), (2, .inl (l2))] rfl (fun z => by cases z) (by decide +kernel) (K := ?_)
  unfold F12_line at H
  refine ev_iload_n 1 dX12_line_0 (k := ?_)
  obtain ⟨q1, hq, H1⟩ := bd_e H
  clear H
  refine ev_callS (mc := 0) (ms := 0) (st := []) (C12_isLine hq) md_X12_isLine ss_X12_isLine ml_X12_288 dX12_line_1 _ (by decide) (K := ?_)
  refine ev_ifeq 19 dX12_line_4 (kt := fun hc => ?_) (kf := fun hc => ?_)
  · replace H1 := if_pe hc H1
    refine ev_lv [] [] (k := ?_)
    exact E12_line_19 q1.2 _ H1
  · replace H1 := if_ne hc H1
    refine ev_iload_n 2 dX12_line_7 (k := ?_)
    refine ev_i2l dX12_line_8 (k := ?_)
    refine ev_lconst (v := 0) dX12_line_9 (k := ?_)
    refine ev_ldc2 (n := 8) cl_X12_508 dX12_line_10 (k := ?_)
    obtain ⟨q2, hq, H2⟩ := bd_e H1
    clear H1
    refine ev_callS (mc := 0) (ms := 0) (st := []) (C12_in hq) md_X12_in ss_X12_in ml_X12_268 dX12_line_13 _ (by decide) (K := ?_)
    refine ev_ifne 22 dX12_line_16 (kt := fun hc => ?_) (kf := fun hc => ?_)
    · replace H2 := if_ne hc H2
      refine ev_aload_n 0 dX12_line_22 (k := ?_)
      refine ev_getR (t := 119) (x := some (119, 0)) fl_X12_56 dX12_line_23 (hx := ry_12_19 _ _) (K := ?_)
      refine ev_iload_n 1 dX12_line_26 (k := ?_)
      obtain ⟨⟨hi0, hi1⟩, H3⟩ := g_e H2
      clear H2
      refine ev_iaload (k := 119) hi0 hi1 dX12_line_27 (hc := ac_119) (hlen := ln_119 _ _) (K := ?_)
      obtain ⟨x3, ex3, H4⟩ := lt_e H3
      clear H3
      refine ev_topI ex3 ?_
      refine ev_istore_n [(3, .inl (x3)), (0, .inr (.inr (some (12, 0)))), (1, .inl (l1)), (2, .inl (l2))] dX12_line_28 (k := ?_)
      refine ev_aload_n 1 dX12_line_29 (k := ?_)
      refine ev_getR (t := 120) (x := some (120, 0)) fl_X12_59 dX12_line_30 (hx := ry_12_20 _ _) (K := ?_)
      refine ev_iload_n 2 dX12_line_33 (k := ?_)
      obtain ⟨⟨hi0, hi1⟩, H5⟩ := g_e H4
      clear H4
      refine ev_iaload (k := 120) hi0 hi1 dX12_line_34 (hc := ac_120) (hlen := ln_120 _ _) (K := ?_)
      obtain ⟨x4, ex4, H6⟩ := lt_e H5
      clear H5
      refine ev_topI ex4 ?_
      refine ev_istore [(4, .inl (x4)), (3, .inl (x3)), (0, .inr (.inr (some (12, 0)))), (1, .inl (l1)), (2, .inl (l2))] dX12_line_35 (k := ?_)
      refine ev_iload_n 4 dX12_line_37 (k := ?_)
      by_cases hs0 : l2 = 0
      · replace H6 := if_pe hs0 H6
        refine ev_tableIn (off := 46) 84 dX12_line_38 (by omega) (by omega) (by rw [hs0]; rfl) (k := ?_)
        refine ev_aload_n 2 dX12_line_84 (k := ?_)
        refine ev_getR (t := 112) (x := some (112, 0)) fl_X12_34 dX12_line_85 (hx := ry_12_12 _ _) (K := ?_)
        refine ev_iload_n 3 dX12_line_88 (k := ?_)
        obtain ⟨⟨hi0, hi1⟩, H7⟩ := g_e H6
        clear H6
        refine ev_zaload (k := 112) hi0 hi1 dX12_line_89 (hc := ac_112) (hlen := ln_112 _ _) (K := ?_)
        refine ev_ifeq 97 dX12_line_90 (kt := fun hc => ?_) (kf := fun hc => ?_)
        · replace H7 := if_pe hc H7
          refine ev_iconst dX12_line_97 (k := ?_)
          cases H7
          exact ev_ireturn dX12_line_98
        · replace H7 := if_ne hc H7
          refine ev_iconst dX12_line_93 (k := ?_)
          refine ev_goto 98 dX12_line_94 (k := ?_)
          cases H7
          exact ev_ireturn dX12_line_98
      · replace H6 := if_ne hs0 H6
        by_cases hs1 : l2 = 1
        · replace H6 := if_pe hs1 H6
          refine ev_tableIn (off := 61) 99 dX12_line_38 (by omega) (by omega) (by rw [hs1]; rfl) (k := ?_)
          refine ev_aload_n 2 dX12_line_99 (k := ?_)
          refine ev_iload_n 3 dX12_line_100 (k := ?_)
          obtain ⟨q5, hq, H7⟩ := bd_e H6
          clear H6
          refine ev_callV (mc := 0) (ms := 0) (st := []) (C12_sounds hq) md_X12_sounds im_X12_sounds se_X12_sounds ml_X12_510 dX12_line_101 _ (by decide) (K := ?_)
          cases H7
          exact ev_ireturn dX12_line_104
        · replace H6 := if_ne hs1 H6
          by_cases hs2 : l2 = 2
          · replace H6 := if_pe hs2 H6
            refine ev_tableIn (off := 67) 105 dX12_line_38 (by omega) (by omega) (by rw [hs2]; rfl) (k := ?_)
            refine ev_iload_n 1 dX12_line_105 (k := ?_)
            refine ev_iconst dX12_line_106 (k := ?_)
            refine ev_icmpne 114 dX12_line_107 (kt := fun hc => ?_) (kf := fun hc => ?_)
            · replace H6 := if_ne hc H6
              refine ev_aload_n 2 dX12_line_114 (k := ?_)
              refine ev_getR (t := 133) (x := some (133, 0)) fl_X12_95 dX12_line_115 (hx := ry_12_33 _ _) (K := ?_)
              refine ev_iload_n 1 dX12_line_118 (k := ?_)
              obtain ⟨⟨hi0, hi1⟩, H7⟩ := g_e H6
              clear H6
              refine ev_iaload (k := 133) hi0 hi1 dX12_line_119 (hc := ac_133) (hlen := ln_133 _ _) (K := ?_)
              cases H7
              exact ev_ireturn dX12_line_120
            · replace H6 := if_pe hc H6
              refine ev_iconst dX12_line_110 (k := ?_)
              refine ev_goto 120 dX12_line_111 (k := ?_)
              cases H6
              exact ev_ireturn dX12_line_120
          · replace H6 := if_ne hs2 H6
            by_cases hs3 : l2 = 3
            · replace H6 := if_pe hs3 H6
              refine ev_tableIn (off := 83) 121 dX12_line_38 (by omega) (by omega) (by rw [hs3]; rfl) (k := ?_)
              refine ev_iload 0 dX12_line_121 (k := ?_)
              refine ev_iconst dX12_line_123 (k := ?_)
              refine ev_icmpne 131 dX12_line_124 (kt := fun hc => ?_) (kf := fun hc => ?_)
              · replace H6 := if_ne hc H6
                refine ev_aload_n 2 dX12_line_131 (k := ?_)
                refine ev_getR (t := 133) (x := some (133, 0)) fl_X12_95 dX12_line_132 (hx := ry_12_33 _ _) (K := ?_)
                refine ev_iload 0 dX12_line_135 (k := ?_)
                obtain ⟨⟨hi0, hi1⟩, H7⟩ := g_e H6
                clear H6
                refine ev_iaload (k := 133) hi0 hi1 dX12_line_137 (hc := ac_133) (hlen := ln_133 _ _) (K := ?_)
                refine ev_iconst dX12_line_138 (k := ?_)
                refine ev_icmpne 146 dX12_line_139 (kt := fun hc => ?_) (kf := fun hc => ?_)
                · replace H7 := if_ne hc H7
                  refine ev_iconst dX12_line_146 (k := ?_)
                  cases H7
                  exact ev_ireturn dX12_line_147
                · replace H7 := if_pe hc H7
                  refine ev_iconst dX12_line_142 (k := ?_)
                  refine ev_goto 147 dX12_line_143 (k := ?_)
                  cases H7
                  exact ev_ireturn dX12_line_147
              · replace H6 := if_pe hc H6
                refine ev_iconst dX12_line_127 (k := ?_)
                refine ev_goto 147 dX12_line_128 (k := ?_)
                cases H6
                exact ev_ireturn dX12_line_147
            · replace H6 := if_ne hs3 H6
              by_cases hs4 : l2 = 4
              · replace H6 := if_pe hs4 H6
                refine ev_tableIn (off := 110) 148 dX12_line_38 (by omega) (by omega) (by rw [hs4]; rfl) (k := ?_)
                refine ev_aload_n 2 dX12_line_148 (k := ?_)
                refine ev_getR (t := 122) (x := some (122, 0)) fl_X12_65 dX12_line_149 (hx := ry_12_22 _ _) (K := ?_)
                refine ev_iload_n 3 dX12_line_152 (k := ?_)
                obtain ⟨⟨hi0, hi1⟩, H7⟩ := g_e H6
                clear H6
                refine ev_iaload (k := 122) hi0 hi1 dX12_line_153 (hc := ac_122) (hlen := ln_122 _ _) (K := ?_)
                cases H7
                exact ev_ireturn dX12_line_154
              · replace H6 := if_ne hs4 H6
                by_cases hs5 : l2 = 5
                · replace H6 := if_pe hs5 H6
                  refine ev_tableIn (off := 117) 155 dX12_line_38 (by omega) (by omega) (by rw [hs5]; rfl) (k := ?_)
                  refine ev_aload_n 2 dX12_line_155 (k := ?_)
                  refine ev_getR (t := 124) (x := some (124, 0)) fl_X12_71 dX12_line_156 (hx := ry_12_24 _ _) (K := ?_)
                  refine ev_iload_n 3 dX12_line_159 (k := ?_)
                  obtain ⟨⟨hi0, hi1⟩, H7⟩ := g_e H6
                  clear H6
                  refine ev_zaload (k := 124) hi0 hi1 dX12_line_160 (hc := ac_124) (hlen := ln_124 _ _) (K := ?_)
                  refine ev_ifeq 168 dX12_line_161 (kt := fun hc => ?_) (kf := fun hc => ?_)
                  · replace H7 := if_pe hc H7
                    refine ev_iconst dX12_line_168 (k := ?_)
                    cases H7
                    exact ev_ireturn dX12_line_169
                  · replace H7 := if_ne hc H7
                    refine ev_iconst dX12_line_164 (k := ?_)
                    refine ev_goto 169 dX12_line_165 (k := ?_)
                    cases H7
                    exact ev_ireturn dX12_line_169
                · replace H6 := if_ne hs5 H6
                  by_cases hs6 : l2 = 6
                  · replace H6 := if_pe hs6 H6
                    refine ev_tableIn (off := 132) 170 dX12_line_38 (by omega) (by omega) (by rw [hs6]; rfl) (k := ?_)
                    refine ev_aload_n 2 dX12_line_170 (k := ?_)
                    refine ev_getR (t := 126) (x := some (126, 0)) fl_X12_77 dX12_line_171 (hx := ry_12_26 _ _) (K := ?_)
                    refine ev_iload_n 3 dX12_line_174 (k := ?_)
                    obtain ⟨⟨hi0, hi1⟩, H7⟩ := g_e H6
                    clear H6
                    refine ev_iaload (k := 126) hi0 hi1 dX12_line_175 (hc := ac_126) (hlen := ln_126 _ _) (K := ?_)
                    cases H7
                    exact ev_ireturn dX12_line_176
                  · replace H6 := if_ne hs6 H6
                    by_cases hs7 : l2 = 7
                    · replace H6 := if_pe hs7 H6
                      refine ev_tableIn (off := 139) 177 dX12_line_38 (by omega) (by omega) (by rw [hs7]; rfl) (k := ?_)
                      refine ev_iload_n 1 dX12_line_177 (k := ?_)
                      refine ev_iconst dX12_line_178 (k := ?_)
                      refine ev_icmpne 186 dX12_line_179 (kt := fun hc => ?_) (kf := fun hc => ?_)
                      · replace H6 := if_ne hc H6
                        refine ev_aload_n 2 dX12_line_186 (k := ?_)
                        refine ev_getR (t := 140) (x := some (140, 0)) fl_X12_116 dX12_line_187 (hx := ry_12_40 _ _) (K := ?_)
                        refine ev_iload_n 1 dX12_line_190 (k := ?_)
                        obtain ⟨⟨hi0, hi1⟩, H7⟩ := g_e H6
                        clear H6
                        refine ev_iaload (k := 140) hi0 hi1 dX12_line_191 (hc := ac_140) (hlen := ln_140 _ _) (K := ?_)
                        cases H7
                        exact ev_ireturn dX12_line_192
                      · replace H6 := if_pe hc H6
                        refine ev_iconst dX12_line_182 (k := ?_)
                        refine ev_goto 192 dX12_line_183 (k := ?_)
                        cases H6
                        exact ev_ireturn dX12_line_192
                    · replace H6 := if_ne hs7 H6
                      refine ev_tableOut 193 dX12_line_38 (by omega) (k := ?_)
                      refine ev_aload_n 2 dX12_line_193 (k := ?_)
                      refine ev_getR (t := 118) (x := some (118, 0)) fl_X12_53 dX12_line_194 (hx := ry_12_18 _ _) (K := ?_)
                      refine ev_iload_n 3 dX12_line_197 (k := ?_)
                      obtain ⟨⟨hi0, hi1⟩, H7⟩ := g_e H6
                      clear H6
                      refine ev_iaload (k := 118) hi0 hi1 dX12_line_198 (hc := ac_118) (hlen := ln_118 _ _) (K := ?_)
                      cases H7
                      exact ev_ireturn dX12_line_199
    · replace H2 := if_pe hc H2
      refine ev_lv [] [] (k := ?_)
      exact E12_line_19 q2.2 _ H2
-- X12_link
abbrev T12_link : JT := (RX12, cX12_link, 4, some .int, false)
set_option maxRecDepth 100000 in
set_option maxHeartbeats 4000000 in
theorem E12_link_22 (h : JM) (res : (Int × JM)) (H : F12_link_22 h = some res) : Ev j_W1 2 0 0 T12_link 22 [] [] h (some (.inl res.1)) res.2 := by
  unfold F12_link_22 at H
  refine ev_bipush dX12_link_22 (k := ?_)
  cases H
  exact ev_ireturn dX12_link_24
set_option maxRecDepth 100000 in
set_option maxHeartbeats 4000000 in
theorem C12_link {l1 : Int} {l2 : Int} {h : JM} {res : (Int × JM)} (H : F12_link l1 l2 h = some res) : Cn j_W1 2 0 0 yX12_link cX12_link 4 (some .int) [.inr (.inr (some (12, 0))), .inl (l1), .inl (l2)] h (some (.inl res.1)) res.2 := by
  refine Cn.by (own := RX12) (b := false) [(0, .inr (.inr (some (12, 0)))), (1, .inl (l1)), (2, .inl (l2))] rfl (fun z => by cases z) (by decide +kernel) (K := ?_)
  unfold F12_link at H
  refine ev_iload_n 1 dX12_link_0 (k := ?_)
  refine ev_i2l dX12_link_1 (k := ?_)
  refine ev_lconst (v := 0) dX12_link_2 (k := ?_)
  refine ev_lconst (v := 1) dX12_link_3 (k := ?_)
  obtain ⟨q1, hq, H1⟩ := bd_e H
  clear H
  refine ev_callS (mc := 0) (ms := 0) (st := []) (C12_in hq) md_X12_in ss_X12_in ml_X12_268 dX12_link_4 _ (by decide) (K := ?_)
  refine ev_ifeq 22 dX12_link_7 (kt := fun hc => ?_) (kf := fun hc => ?_)
  · replace H1 := if_pe hc H1
    refine ev_lv [] [] (k := ?_)
    exact E12_link_22 q1.2 _ H1
  · replace H1 := if_ne hc H1
    refine ev_iload_n 2 dX12_link_10 (k := ?_)
    refine ev_i2l dX12_link_11 (k := ?_)
    refine ev_lconst (v := 0) dX12_link_12 (k := ?_)
    refine ev_ldc2 (n := 6) cl_X12_513 dX12_link_13 (k := ?_)
    obtain ⟨q2, hq, H2⟩ := bd_e H1
    clear H1
    refine ev_callS (mc := 0) (ms := 0) (st := []) (C12_in hq) md_X12_in ss_X12_in ml_X12_268 dX12_link_16 _ (by decide) (K := ?_)
    refine ev_ifne 25 dX12_link_19 (kt := fun hc => ?_) (kf := fun hc => ?_)
    · replace H2 := if_ne hc H2
      refine ev_iload_n 1 dX12_link_25 (k := ?_)
      refine ev_istore_n [(3, .inl (l1)), (0, .inr (.inr (some (12, 0)))), (1, .inl (l1)), (2, .inl (l2))] dX12_link_26 (k := ?_)
      refine ev_iload_n 3 dX12_link_27 (k := ?_)
      refine ev_ifne 40 dX12_link_28 (kt := fun hc => ?_) (kf := fun hc => ?_)
      · replace H2 := if_ne hc H2
        refine ev_iload_n 3 dX12_link_40 (k := ?_)
        refine ev_iconst dX12_link_41 (k := ?_)
        refine ev_icmpne 54 dX12_link_42 (kt := fun hc => ?_) (kf := fun hc => ?_)
        · replace H2 := if_ne hc H2
          refine ev_iload_n 3 dX12_link_54 (k := ?_)
          refine ev_iconst dX12_link_55 (k := ?_)
          refine ev_icmpne 68 dX12_link_56 (kt := fun hc => ?_) (kf := fun hc => ?_)
          · replace H2 := if_ne hc H2
            refine ev_iload_n 3 dX12_link_68 (k := ?_)
            refine ev_iconst dX12_link_69 (k := ?_)
            refine ev_icmpne 82 dX12_link_70 (kt := fun hc => ?_) (kf := fun hc => ?_)
            · replace H2 := if_ne hc H2
              refine ev_iload_n 3 dX12_link_82 (k := ?_)
              refine ev_iconst dX12_link_83 (k := ?_)
              refine ev_icmpne 96 dX12_link_84 (kt := fun hc => ?_) (kf := fun hc => ?_)
              · replace H2 := if_ne hc H2
                refine ev_iload_n 3 dX12_link_96 (k := ?_)
                refine ev_iconst dX12_link_97 (k := ?_)
                refine ev_icmpne 110 dX12_link_98 (kt := fun hc => ?_) (kf := fun hc => ?_)
                · replace H2 := if_ne hc H2
                  refine ev_aload_n 1 dX12_link_110 (k := ?_)
                  refine ev_getR (t := 167) (x := some (167, 0)) fl_X12_194 dX12_link_111 (hx := ry_12_67 _ _) (K := ?_)
                  refine ev_iload_n 0 dX12_link_114 (k := ?_)
                  obtain ⟨⟨hi0, hi1⟩, H3⟩ := g_e H2
                  clear H2
                  refine ev_iaload (k := 167) hi0 hi1 dX12_link_115 (hc := ac_167) (hlen := ln_167 _ _) (K := ?_)
                  cases H3
                  exact ev_ireturn dX12_link_116
                · replace H2 := if_pe hc H2
                  refine ev_aload_n 1 dX12_link_101 (k := ?_)
                  refine ev_getR (t := 166) (x := some (166, 0)) fl_X12_191 dX12_link_102 (hx := ry_12_66 _ _) (K := ?_)
                  refine ev_iload_n 0 dX12_link_105 (k := ?_)
                  obtain ⟨⟨hi0, hi1⟩, H3⟩ := g_e H2
                  clear H2
                  refine ev_iaload (k := 166) hi0 hi1 dX12_link_106 (hc := ac_166) (hlen := ln_166 _ _) (K := ?_)
                  refine ev_goto 116 dX12_link_107 (k := ?_)
                  cases H3
                  exact ev_ireturn dX12_link_116
              · replace H2 := if_pe hc H2
                refine ev_aload_n 1 dX12_link_87 (k := ?_)
                refine ev_getR (t := 165) (x := some (165, 0)) fl_X12_188 dX12_link_88 (hx := ry_12_65 _ _) (K := ?_)
                refine ev_iload_n 0 dX12_link_91 (k := ?_)
                obtain ⟨⟨hi0, hi1⟩, H3⟩ := g_e H2
                clear H2
                refine ev_iaload (k := 165) hi0 hi1 dX12_link_92 (hc := ac_165) (hlen := ln_165 _ _) (K := ?_)
                refine ev_goto 116 dX12_link_93 (k := ?_)
                cases H3
                exact ev_ireturn dX12_link_116
            · replace H2 := if_pe hc H2
              refine ev_aload_n 1 dX12_link_73 (k := ?_)
              refine ev_getR (t := 164) (x := some (164, 0)) fl_X12_185 dX12_link_74 (hx := ry_12_64 _ _) (K := ?_)
              refine ev_iload_n 0 dX12_link_77 (k := ?_)
              obtain ⟨⟨hi0, hi1⟩, H3⟩ := g_e H2
              clear H2
              refine ev_iaload (k := 164) hi0 hi1 dX12_link_78 (hc := ac_164) (hlen := ln_164 _ _) (K := ?_)
              refine ev_goto 116 dX12_link_79 (k := ?_)
              cases H3
              exact ev_ireturn dX12_link_116
          · replace H2 := if_pe hc H2
            refine ev_aload_n 1 dX12_link_59 (k := ?_)
            refine ev_getR (t := 162) (x := some (162, 0)) fl_X12_179 dX12_link_60 (hx := ry_12_62 _ _) (K := ?_)
            refine ev_iload_n 0 dX12_link_63 (k := ?_)
            obtain ⟨⟨hi0, hi1⟩, H3⟩ := g_e H2
            clear H2
            refine ev_iaload (k := 162) hi0 hi1 dX12_link_64 (hc := ac_162) (hlen := ln_162 _ _) (K := ?_)
            refine ev_goto 116 dX12_link_65 (k := ?_)
            cases H3
            exact ev_ireturn dX12_link_116
        · replace H2 := if_pe hc H2
          refine ev_aload_n 1 dX12_link_45 (k := ?_)
          refine ev_getR (t := 161) (x := some (161, 0)) fl_X12_176 dX12_link_46 (hx := ry_12_61 _ _) (K := ?_)
          refine ev_iload_n 0 dX12_link_49 (k := ?_)
          obtain ⟨⟨hi0, hi1⟩, H3⟩ := g_e H2
          clear H2
          refine ev_iaload (k := 161) hi0 hi1 dX12_link_50 (hc := ac_161) (hlen := ln_161 _ _) (K := ?_)
          refine ev_goto 116 dX12_link_51 (k := ?_)
          cases H3
          exact ev_ireturn dX12_link_116
      · replace H2 := if_pe hc H2
        refine ev_aload_n 1 dX12_link_31 (k := ?_)
        refine ev_getR (t := 160) (x := some (160, 0)) fl_X12_173 dX12_link_32 (hx := ry_12_60 _ _) (K := ?_)
        refine ev_iload_n 0 dX12_link_35 (k := ?_)
        obtain ⟨⟨hi0, hi1⟩, H3⟩ := g_e H2
        clear H2
        refine ev_iaload (k := 160) hi0 hi1 dX12_link_36 (hc := ac_160) (hlen := ln_160 _ _) (K := ?_)
        refine ev_goto 116 dX12_link_37 (k := ?_)
        cases H3
        exact ev_ireturn dX12_link_116
    · replace H2 := if_pe hc H2
      refine ev_lv [] [] (k := ?_)
      exact E12_link_22 q2.2 _ H2
-- X12_looks
abbrev T12_looks : JT := (RX12, cX12_looks, 4, none, false)
set_option maxRecDepth 100000 in
set_option maxHeartbeats 4000000 in
theorem E12_looks_219b (k219 : Int → Int → Int → JM → Option JM) (hk219 : ∀ (l1 : Int) (l2 : Int) (l3 : Int) (h : JM) (res : JM), k219 l1 l2 l3 h = some res → Ev j_W1 90 0 0 T12_looks 219 [(0, .inr (.inr (some (12, 0)))), (1, .inl (l1)), (2, .inl (l2)), (3, .inl (l3))] [] h none res) (l1 : Int) (l2 : Int) (l3 : Int) (h : JM) (res : JM) (H : F12_looks_219b k219 l1 l2 l3 h = some res) : Ev j_W1 90 0 0 T12_looks 219 [(0, .inr (.inr (some (12, 0)))), (1, .inl (l1)), (2, .inl (l2)), (3, .inl (l3))] [] h none res := by
  unfold F12_looks_219b at H
  refine ev_iload_n 3 dX12_looks_219 (k := ?_)
  refine ev_aload_n 0 dX12_looks_220 (k := ?_)
  refine ev_getR (t := 118) (x := some (118, 0)) fl_X12_53 dX12_looks_221 (hx := ry_12_18 _ _) (K := ?_)
  refine ev_iload_n 1 dX12_looks_224 (k := ?_)
  obtain ⟨⟨hi0, hi1⟩, H1⟩ := g_e H
  clear H
  refine ev_iaload (k := 118) hi0 hi1 dX12_looks_225 (hc := ac_118) (hlen := ln_118 _ _) (K := ?_)
  refine ev_icmpge 259 dX12_looks_226 (kt := fun hc => ?_) (kf := fun hc => ?_)
  · replace H1 := if_pe hc H1
    refine ev_aload_n 0 dX12_looks_259 (k := ?_)
    refine ev_iload_n 1 dX12_looks_260 (k := ?_)
    refine ev_iload_n 2 dX12_looks_261 (k := ?_)
    obtain ⟨h1, hq, H2⟩ := bd_e H1
    clear H1
    refine ev_callV (mc := 0) (ms := 0) (st := []) (C12_keyComes hq) md_X12_keyComes im_X12_keyComes se_X12_keyComes ml_X12_310 dX12_looks_262 _ (by decide) (K := ?_)
    cases H2
    exact ev_return dX12_looks_265
  · replace H1 := if_ne hc H1
    refine ev_aload_n 0 dX12_looks_229 (k := ?_)
    refine ev_getR (t := 117) (x := some (117, 0)) fl_X12_50 dX12_looks_230 (hx := ry_12_17 _ _) (K := ?_)
    refine ev_bipush dX12_looks_233 (k := ?_)
    refine ev_iload_n 1 dX12_looks_235 (k := ?_)
    refine ev_imul dX12_looks_236 (k := ?_)
    refine ev_iload_n 3 dX12_looks_237 (k := ?_)
    refine ev_iadd dX12_looks_238 (k := ?_)
    refine ev_aload_n 0 dX12_looks_239 (k := ?_)
    refine ev_getR (t := 117) (x := some (117, 0)) fl_X12_50 dX12_looks_240 (hx := ry_12_17 _ _) (K := ?_)
    refine ev_bipush dX12_looks_243 (k := ?_)
    refine ev_iload_n 1 dX12_looks_245 (k := ?_)
    refine ev_imul dX12_looks_246 (k := ?_)
    refine ev_iload_n 3 dX12_looks_247 (k := ?_)
    refine ev_iadd dX12_looks_248 (k := ?_)
    refine ev_iconst dX12_looks_249 (k := ?_)
    refine ev_iadd dX12_looks_250 (k := ?_)
    obtain ⟨⟨hi0, hi1⟩, H2⟩ := g_e H1
    clear H1
    refine ev_iaload (k := 117) hi0 hi1 dX12_looks_251 (hc := ac_117) (hlen := ln_117 _ _) (K := ?_)
    obtain ⟨⟨hi0, hi1⟩, H3⟩ := g_e H2
    clear H2
    obtain ⟨h2, eh2, H4⟩ := lt_e H3
    clear H3
    refine ev_iastore (k := 117) j_ok1 hi0 hi1 eh2 dX12_looks_252 (hc := ac_117) (hlen := ln_117 _ _) (K := ?_)
    refine ev_iinc 3 [(3, .inl (w32 (l3 + 1))), (0, .inr (.inr (some (12, 0)))), (1, .inl (l1)), (2, .inl (l2))] dX12_looks_253 (k := ?_)
    refine ev_goto 219 dX12_looks_256 (k := ?_)
    refine ev_lv [1, 2, 3, 0] [(0, .inr (.inr (some (12, 0)))), (1, .inl (l1)), (2, .inl (l2)), (3, .inl (w32 (l3 + 1)))] (k := ?_)
    exact hk219 l1 l2 (w32 (l3 + 1)) h2 _ H4
theorem E12_looks_219 (n : Nat) : ∀ (l1 : Int) (l2 : Int) (l3 : Int) (h : JM) (res : JM), F12_looks_219 n l1 l2 l3 h = some res → Ev j_W1 90 0 0 T12_looks 219 [(0, .inr (.inr (some (12, 0)))), (1, .inl (l1)), (2, .inl (l2)), (3, .inl (l3))] [] h none res := by
  induction n with
  | zero =>
    intro l1 l2 l3 h res H
    cases H
  | succ n ih =>
    intro l1 l2 l3 h res H
    exact E12_looks_219b (F12_looks_219 n) ih l1 l2 l3 h res H
set_option maxRecDepth 100000 in
set_option maxHeartbeats 4000000 in
theorem E12_looks_126 (l1 : Int) (h : JM) (res : JM) (H : F12_looks_126 l1 h = some res) : Ev j_W1 90 0 0 T12_looks 126 [(0, .inr (.inr (some (12, 0)))), (1, .inl (l1))] [] h none res := by
  unfold F12_looks_126 at H
  refine ev_aload_n 0 dX12_looks_126 (k := ?_)
  refine ev_getR (t := 115) (x := some (115, 0)) fl_X12_44 dX12_looks_127 (hx := ry_12_15 _ _) (K := ?_)
  refine ev_iload_n 1 dX12_looks_130 (k := ?_)
  obtain ⟨⟨hi0, hi1⟩, H1⟩ := g_e H
  clear H
  refine ev_iaload (k := 115) hi0 hi1 dX12_looks_131 (hc := ac_115) (hlen := ln_115 _ _) (K := ?_)
  refine ev_ifle 188 dX12_looks_132 (kt := fun hc => ?_) (kf := fun hc => ?_)
  · replace H1 := if_pe hc H1
    refine ev_aload_n 0 dX12_looks_188 (k := ?_)
    refine ev_getR (t := 118) (x := some (118, 0)) fl_X12_53 dX12_looks_189 (hx := ry_12_18 _ _) (K := ?_)
    refine ev_iload_n 1 dX12_looks_192 (k := ?_)
    obtain ⟨⟨hi0, hi1⟩, H2⟩ := g_e H1
    clear H1
    refine ev_iaload (k := 118) hi0 hi1 dX12_looks_193 (hc := ac_118) (hlen := ln_118 _ _) (K := ?_)
    refine ev_ifle 265 dX12_looks_194 (kt := fun hc => ?_) (kf := fun hc => ?_)
    · replace H2 := if_pe hc H2
      cases H2
      exact ev_return dX12_looks_265
    · replace H2 := if_ne hc H2
      refine ev_aload_n 0 dX12_looks_197 (k := ?_)
      refine ev_getR (t := 117) (x := some (117, 0)) fl_X12_50 dX12_looks_198 (hx := ry_12_17 _ _) (K := ?_)
      refine ev_bipush dX12_looks_201 (k := ?_)
      refine ev_iload_n 1 dX12_looks_203 (k := ?_)
      refine ev_imul dX12_looks_204 (k := ?_)
      obtain ⟨⟨hi0, hi1⟩, H3⟩ := g_e H2
      clear H2
      refine ev_iaload (k := 117) hi0 hi1 dX12_looks_205 (hc := ac_117) (hlen := ln_117 _ _) (K := ?_)
      obtain ⟨x3, ex3, H4⟩ := lt_e H3
      clear H3
      refine ev_topI ex3 ?_
      refine ev_istore_n [(2, .inl (x3)), (0, .inr (.inr (some (12, 0)))), (1, .inl (l1))] dX12_looks_206 (k := ?_)
      refine ev_aload_n 1 dX12_looks_207 (k := ?_)
      refine ev_getR (t := 118) (x := some (118, 0)) fl_X12_53 dX12_looks_208 (hx := ry_12_18 _ _) (K := ?_)
      refine ev_iload_n 2 dX12_looks_211 (k := ?_)
      refine ev_dup2 dX12_looks_212 (k := ?_)
      obtain ⟨⟨hi0, hi1⟩, H5⟩ := g_e H4
      clear H4
      refine ev_iaload (k := 118) hi0 hi1 dX12_looks_213 (hc := ac_118) (hlen := ln_118 _ _) (K := ?_)
      refine ev_iconst dX12_looks_214 (k := ?_)
      refine ev_isub dX12_looks_215 (k := ?_)
      obtain ⟨⟨hi0, hi1⟩, H6⟩ := g_e H5
      clear H5
      obtain ⟨h4, eh4, H7⟩ := lt_e H6
      clear H6
      refine ev_iastore (k := 118) j_ok1 hi0 hi1 eh4 dX12_looks_216 (hc := ac_118) (hlen := ln_118 _ _) (K := ?_)
      refine ev_iconst dX12_looks_217 (k := ?_)
      refine ev_istore_n [(3, .inl (0)), (2, .inl (x3)), (0, .inr (.inr (some (12, 0)))), (1, .inl (l1))] dX12_looks_218 (k := ?_)
      refine ev_lv [2, 3, 1, 0] [(0, .inr (.inr (some (12, 0)))), (1, .inl (l1)), (2, .inl (x3)), (3, .inl (0))] (k := ?_)
      exact E12_looks_219 j_fu l1 x3 0 h4 _ H7
  · replace H1 := if_ne hc H1
    refine ev_aload_n 0 dX12_looks_135 (k := ?_)
    refine ev_getR (t := 116) (x := some (116, 0)) fl_X12_47 dX12_looks_136 (hx := ry_12_16 _ _) (K := ?_)
    refine ev_iload_n 1 dX12_looks_139 (k := ?_)
    refine ev_dup2 dX12_looks_140 (k := ?_)
    obtain ⟨⟨hi0, hi1⟩, H2⟩ := g_e H1
    clear H1
    refine ev_iaload (k := 116) hi0 hi1 dX12_looks_141 (hc := ac_116) (hlen := ln_116 _ _) (K := ?_)
    refine ev_iconst dX12_looks_142 (k := ?_)
    refine ev_iadd dX12_looks_143 (k := ?_)
    obtain ⟨⟨hi0, hi1⟩, H3⟩ := g_e H2
    clear H2
    obtain ⟨h5, eh5, H4⟩ := lt_e H3
    clear H3
    refine ev_iastore (k := 116) j_ok1 hi0 hi1 eh5 dX12_looks_144 (hc := ac_116) (hlen := ln_116 _ _) (K := ?_)
    refine ev_aload_n 0 dX12_looks_145 (k := ?_)
    refine ev_getR (t := 116) (x := some (116, 0)) fl_X12_47 dX12_looks_146 (hx := ry_12_16 _ _) (K := ?_)
    refine ev_iload_n 1 dX12_looks_149 (k := ?_)
    obtain ⟨⟨hi0, hi1⟩, H5⟩ := g_e H4
    clear H4
    refine ev_iaload (k := 116) hi0 hi1 dX12_looks_150 (hc := ac_116) (hlen := ln_116 _ _) (K := ?_)
    refine ev_bipush dX12_looks_151 (k := ?_)
    refine ev_icmpne 265 dX12_looks_153 (kt := fun hc => ?_) (kf := fun hc => ?_)
    · replace H5 := if_ne hc H5
      cases H5
      exact ev_return dX12_looks_265
    · replace H5 := if_pe hc H5
      refine ev_aload_n 0 dX12_looks_156 (k := ?_)
      refine ev_getR (t := 115) (x := some (115, 0)) fl_X12_44 dX12_looks_157 (hx := ry_12_15 _ _) (K := ?_)
      refine ev_iload_n 1 dX12_looks_160 (k := ?_)
      obtain ⟨⟨hi0, hi1⟩, H6⟩ := g_e H5
      clear H5
      refine ev_iaload (k := 115) hi0 hi1 dX12_looks_161 (hc := ac_115) (hlen := ln_115 _ _) (K := ?_)
      obtain ⟨x6, ex6, H7⟩ := lt_e H6
      clear H6
      refine ev_topI ex6 ?_
      refine ev_istore_n [(2, .inl (x6)), (0, .inr (.inr (some (12, 0)))), (1, .inl (l1))] dX12_looks_162 (k := ?_)
      refine ev_aload_n 1 dX12_looks_163 (k := ?_)
      refine ev_getR (t := 115) (x := some (115, 0)) fl_X12_44 dX12_looks_164 (hx := ry_12_15 _ _) (K := ?_)
      refine ev_iload_n 2 dX12_looks_167 (k := ?_)
      refine ev_iconst dX12_looks_168 (k := ?_)
      obtain ⟨⟨hi0, hi1⟩, H8⟩ := g_e H7
      clear H7
      obtain ⟨h7, eh7, H9⟩ := lt_e H8
      clear H8
      refine ev_iastore (k := 115) j_ok1 hi0 hi1 eh7 dX12_looks_169 (hc := ac_115) (hlen := ln_115 _ _) (K := ?_)
      refine ev_iload_n 0 dX12_looks_170 (k := ?_)
      refine ev_bipush dX12_looks_171 (k := ?_)
      refine ev_icmpgt 185 dX12_looks_173 (kt := fun hc => ?_) (kf := fun hc => ?_)
      · replace H9 := if_pe hc H9
        refine ev_goto 265 dX12_looks_185 (k := ?_)
        cases H9
        exact ev_return dX12_looks_265
      · replace H9 := if_ne hc H9
        refine ev_aload_n 1 dX12_looks_176 (k := ?_)
        refine ev_iload_n 2 dX12_looks_177 (k := ?_)
        refine ev_iload_n 0 dX12_looks_178 (k := ?_)
        refine ev_bipush dX12_looks_179 (k := ?_)
        refine ev_irem dX12_looks_181 (by decide) (k := ?_)
        obtain ⟨h8, hq, H10⟩ := bd_e H9
        clear H9
        refine ev_callV (mc := 0) (ms := 0) (st := []) (C12_keyComes hq) md_X12_keyComes im_X12_keyComes se_X12_keyComes ml_X12_310 dX12_looks_182 _ (by decide) (K := ?_)
        refine ev_goto 265 dX12_looks_185 (k := ?_)
        cases H10
        exact ev_return dX12_looks_265
set_option maxRecDepth 100000 in
set_option maxHeartbeats 4000000 in
theorem C12_looks {l1 : Int} {h : JM} {res : JM} (H : F12_looks l1 h = some res) : Cn j_W1 90 0 0 yX12_looks cX12_looks 4 none [.inr (.inr (some (12, 0))), .inl (l1)] h none res := by
  refine Cn.by (own := RX12) (b := false) [(0, .inr (.inr (some (12, 0)))), (1, .inl (l1))] rfl (fun z => by cases z) (by decide +kernel) (K := ?_)
  unfold F12_looks at H
  refine ev_aload_n 0 dX12_looks_0 (k := ?_)
  refine ev_getR (t := 112) (x := some (112, 0)) fl_X12_34 dX12_looks_1 (hx := ry_12_12 _ _) (K := ?_)
  refine ev_iload_n 1 dX12_looks_4 (k := ?_)
  obtain ⟨⟨hi0, hi1⟩, H1⟩ := g_e H
  clear H
  refine ev_zaload (k := 112) hi0 hi1 dX12_looks_5 (hc := ac_112) (hlen := ln_112 _ _) (K := ?_)
  refine ev_ifne 24 dX12_looks_6 (kt := fun hc => ?_) (kf := fun hc => ?_)
  · replace H1 := if_ne hc H1
    refine ev_aload_n 0 dX12_looks_24 (k := ?_)
    refine ev_getR (t := 113) (x := some (113, 0)) fl_X12_38 dX12_looks_25 (hx := ry_12_13 _ _) (K := ?_)
    refine ev_iload_n 1 dX12_looks_28 (k := ?_)
    obtain ⟨⟨hi0, hi1⟩, H2⟩ := g_e H1
    clear H1
    refine ev_zaload (k := 113) hi0 hi1 dX12_looks_29 (hc := ac_113) (hlen := ln_113 _ _) (K := ?_)
    refine ev_ifne 60 dX12_looks_30 (kt := fun hc => ?_) (kf := fun hc => ?_)
    · replace H2 := if_ne hc H2
      refine ev_aload_n 0 dX12_looks_60 (k := ?_)
      refine ev_getR (t := 114) (x := some (114, 0)) fl_X12_41 dX12_looks_61 (hx := ry_12_14 _ _) (K := ?_)
      refine ev_iload_n 1 dX12_looks_64 (k := ?_)
      obtain ⟨⟨hi0, hi1⟩, H3⟩ := g_e H2
      clear H2
      refine ev_iaload (k := 114) hi0 hi1 dX12_looks_65 (hc := ac_114) (hlen := ln_114 _ _) (K := ?_)
      refine ev_bipush dX12_looks_66 (k := ?_)
      refine ev_icmple 93 dX12_looks_68 (kt := fun hc => ?_) (kf := fun hc => ?_)
      · replace H3 := if_pe hc H3
        refine ev_aload_n 0 dX12_looks_93 (k := ?_)
        refine ev_getR (t := 114) (x := some (114, 0)) fl_X12_41 dX12_looks_94 (hx := ry_12_14 _ _) (K := ?_)
        refine ev_iload_n 1 dX12_looks_97 (k := ?_)
        obtain ⟨⟨hi0, hi1⟩, H4⟩ := g_e H3
        clear H3
        refine ev_iaload (k := 114) hi0 hi1 dX12_looks_98 (hc := ac_114) (hlen := ln_114 _ _) (K := ?_)
        refine ev_ifle 126 dX12_looks_99 (kt := fun hc => ?_) (kf := fun hc => ?_)
        · replace H4 := if_pe hc H4
          exact E12_looks_126 l1 h _ H4
        · replace H4 := if_ne hc H4
          refine ev_aload_n 0 dX12_looks_102 (k := ?_)
          refine ev_getR (t := 115) (x := some (115, 0)) fl_X12_44 dX12_looks_103 (hx := ry_12_15 _ _) (K := ?_)
          refine ev_iload_n 1 dX12_looks_106 (k := ?_)
          refine ev_dup2 dX12_looks_107 (k := ?_)
          obtain ⟨⟨hi0, hi1⟩, H5⟩ := g_e H4
          clear H4
          refine ev_iaload (k := 115) hi0 hi1 dX12_looks_108 (hc := ac_115) (hlen := ln_115 _ _) (K := ?_)
          refine ev_iconst dX12_looks_109 (k := ?_)
          refine ev_iadd dX12_looks_110 (k := ?_)
          obtain ⟨⟨hi0, hi1⟩, H6⟩ := g_e H5
          clear H5
          obtain ⟨h9, eh9, H7⟩ := lt_e H6
          clear H6
          refine ev_iastore (k := 115) j_ok1 hi0 hi1 eh9 dX12_looks_111 (hc := ac_115) (hlen := ln_115 _ _) (K := ?_)
          refine ev_aload_n 0 dX12_looks_112 (k := ?_)
          refine ev_getR (t := 116) (x := some (116, 0)) fl_X12_47 dX12_looks_113 (hx := ry_12_16 _ _) (K := ?_)
          refine ev_iload_n 1 dX12_looks_116 (k := ?_)
          refine ev_iconst dX12_looks_117 (k := ?_)
          obtain ⟨⟨hi0, hi1⟩, H8⟩ := g_e H7
          clear H7
          obtain ⟨h10, eh10, H9⟩ := lt_e H8
          clear H8
          refine ev_iastore (k := 116) j_ok1 hi0 hi1 eh10 dX12_looks_118 (hc := ac_116) (hlen := ln_116 _ _) (K := ?_)
          refine ev_aload_n 0 dX12_looks_119 (k := ?_)
          refine ev_getR (t := 114) (x := some (114, 0)) fl_X12_41 dX12_looks_120 (hx := ry_12_14 _ _) (K := ?_)
          refine ev_iload_n 1 dX12_looks_123 (k := ?_)
          refine ev_iconst dX12_looks_124 (k := ?_)
          obtain ⟨⟨hi0, hi1⟩, H10⟩ := g_e H9
          clear H9
          obtain ⟨h11, eh11, H11⟩ := lt_e H10
          clear H10
          refine ev_iastore (k := 114) j_ok1 hi0 hi1 eh11 dX12_looks_125 (hc := ac_114) (hlen := ln_114 _ _) (K := ?_)
          exact E12_looks_126 l1 h11 _ H11
      · replace H3 := if_ne hc H3
        refine ev_aload_n 0 dX12_looks_71 (k := ?_)
        refine ev_getR (t := 115) (x := some (115, 0)) fl_X12_44 dX12_looks_72 (hx := ry_12_15 _ _) (K := ?_)
        refine ev_iload_n 1 dX12_looks_75 (k := ?_)
        refine ev_iconst dX12_looks_76 (k := ?_)
        obtain ⟨⟨hi0, hi1⟩, H4⟩ := g_e H3
        clear H3
        obtain ⟨h12, eh12, H5⟩ := lt_e H4
        clear H4
        refine ev_iastore (k := 115) j_ok1 hi0 hi1 eh12 dX12_looks_77 (hc := ac_115) (hlen := ln_115 _ _) (K := ?_)
        refine ev_aload_n 0 dX12_looks_78 (k := ?_)
        refine ev_getR (t := 114) (x := some (114, 0)) fl_X12_41 dX12_looks_79 (hx := ry_12_14 _ _) (K := ?_)
        refine ev_iload_n 1 dX12_looks_82 (k := ?_)
        refine ev_iconst dX12_looks_83 (k := ?_)
        obtain ⟨⟨hi0, hi1⟩, H6⟩ := g_e H5
        clear H5
        obtain ⟨h13, eh13, H7⟩ := lt_e H6
        clear H6
        refine ev_iastore (k := 114) j_ok1 hi0 hi1 eh13 dX12_looks_84 (hc := ac_114) (hlen := ln_114 _ _) (K := ?_)
        refine ev_aload_n 0 dX12_looks_85 (k := ?_)
        refine ev_iload_n 1 dX12_looks_86 (k := ?_)
        obtain ⟨h14, hq, H8⟩ := bd_e H7
        clear H7
        refine ev_callV (mc := 0) (ms := 0) (st := []) (C12_flashes hq) md_X12_flashes im_X12_flashes se_X12_flashes ml_X12_307 dX12_looks_87 _ (by decide) (K := ?_)
        refine ev_goto 126 dX12_looks_90 (k := ?_)
        exact E12_looks_126 l1 h14 _ H8
    · replace H2 := if_pe hc H2
      refine ev_aload_n 0 dX12_looks_33 (k := ?_)
      refine ev_getR (t := 114) (x := some (114, 0)) fl_X12_41 dX12_looks_34 (hx := ry_12_14 _ _) (K := ?_)
      refine ev_iload_n 1 dX12_looks_37 (k := ?_)
      refine ev_dup2 dX12_looks_38 (k := ?_)
      obtain ⟨⟨hi0, hi1⟩, H3⟩ := g_e H2
      clear H2
      refine ev_iaload (k := 114) hi0 hi1 dX12_looks_39 (hc := ac_114) (hlen := ln_114 _ _) (K := ?_)
      refine ev_iconst dX12_looks_40 (k := ?_)
      refine ev_iadd dX12_looks_41 (k := ?_)
      obtain ⟨⟨hi0, hi1⟩, H4⟩ := g_e H3
      clear H3
      obtain ⟨h15, eh15, H5⟩ := lt_e H4
      clear H4
      refine ev_iastore (k := 114) j_ok1 hi0 hi1 eh15 dX12_looks_42 (hc := ac_114) (hlen := ln_114 _ _) (K := ?_)
      refine ev_aload_n 0 dX12_looks_43 (k := ?_)
      refine ev_getR (t := 114) (x := some (114, 0)) fl_X12_41 dX12_looks_44 (hx := ry_12_14 _ _) (K := ?_)
      refine ev_iload_n 1 dX12_looks_47 (k := ?_)
      obtain ⟨⟨hi0, hi1⟩, H6⟩ := g_e H5
      clear H5
      refine ev_iaload (k := 114) hi0 hi1 dX12_looks_48 (hc := ac_114) (hlen := ln_114 _ _) (K := ?_)
      refine ev_bipush dX12_looks_49 (k := ?_)
      refine ev_icmpne 59 dX12_looks_51 (kt := fun hc => ?_) (kf := fun hc => ?_)
      · replace H6 := if_ne hc H6
        cases H6
        exact ev_return dX12_looks_59
      · replace H6 := if_pe hc H6
        refine ev_aload_n 0 dX12_looks_54 (k := ?_)
        refine ev_iload_n 1 dX12_looks_55 (k := ?_)
        obtain ⟨h16, hq, H7⟩ := bd_e H6
        clear H6
        refine ev_callV (mc := 0) (ms := 0) (st := []) (C12_hangs hq) md_X12_hangs im_X12_hangs se_X12_hangs ml_X12_304 dX12_looks_56 _ (by decide) (K := ?_)
        cases H7
        exact ev_return dX12_looks_59
  · replace H1 := if_pe hc H1
    refine ev_aload_n 0 dX12_looks_9 (k := ?_)
    refine ev_getR (t := 113) (x := some (113, 0)) fl_X12_38 dX12_looks_10 (hx := ry_12_13 _ _) (K := ?_)
    refine ev_iload_n 1 dX12_looks_13 (k := ?_)
    obtain ⟨⟨hi0, hi1⟩, H2⟩ := g_e H1
    clear H1
    refine ev_zaload (k := 113) hi0 hi1 dX12_looks_14 (hc := ac_113) (hlen := ln_113 _ _) (K := ?_)
    refine ev_ifeq 23 dX12_looks_15 (kt := fun hc => ?_) (kf := fun hc => ?_)
    · replace H2 := if_pe hc H2
      cases H2
      exact ev_return dX12_looks_23
    · replace H2 := if_ne hc H2
      refine ev_aload_n 0 dX12_looks_18 (k := ?_)
      refine ev_iload_n 1 dX12_looks_19 (k := ?_)
      obtain ⟨h17, hq, H3⟩ := bd_e H2
      clear H2
      refine ev_callV (mc := 0) (ms := 0) (st := []) (C12_lifts hq) md_X12_lifts im_X12_lifts se_X12_lifts ml_X12_300 dX12_looks_20 _ (by decide) (K := ?_)
      cases H3
      exact ev_return dX12_looks_23
-- X12_lose
abbrev T12_lose : JT := (RX12, cX12_lose, 5, some .int, false)
set_option maxRecDepth 100000 in
set_option maxHeartbeats 4000000 in
theorem E12_lose_95 (k40 : Int → Int → Int → Int → JM → Option (Int × JM)) (hk40 : ∀ (l1 : Int) (l2 : Int) (l3 : Int) (l4 : Int) (h : JM) (res : (Int × JM)), k40 l1 l2 l3 l4 h = some res → Ev j_W1 2 0 0 T12_lose 40 [(0, .inr (.inr (some (12, 0)))), (1, .inl (l1)), (2, .inl (l2)), (3, .inl (l3)), (4, .inl (l4))] [] h (some (.inl res.1)) res.2) (l1 : Int) (l2 : Int) (l3 : Int) (l4 : Int) (h : JM) (res : (Int × JM)) (H : F12_lose_95 k40 l1 l2 l3 l4 h = some res) : Ev j_W1 2 0 0 T12_lose 95 [(0, .inr (.inr (some (12, 0)))), (1, .inl (l1)), (2, .inl (l2)), (3, .inl (l3)), (4, .inl (l4))] [] h (some (.inl res.1)) res.2 := by
  unfold F12_lose_95 at H
  refine ev_iinc 4 [(4, .inl (w32 (l4 + 1))), (0, .inr (.inr (some (12, 0)))), (1, .inl (l1)), (2, .inl (l2)), (3, .inl (l3))] dX12_lose_95 (k := ?_)
  refine ev_goto 40 dX12_lose_98 (k := ?_)
  refine ev_lv [1, 2, 3, 4, 0] [(0, .inr (.inr (some (12, 0)))), (1, .inl (l1)), (2, .inl (l2)), (3, .inl (l3)), (4, .inl (w32 (l4 + 1)))] (k := ?_)
  exact hk40 l1 l2 l3 (w32 (l4 + 1)) h _ H
set_option maxRecDepth 100000 in
set_option maxHeartbeats 4000000 in
theorem E12_lose_40b (k40 : Int → Int → Int → Int → JM → Option (Int × JM)) (hk40 : ∀ (l1 : Int) (l2 : Int) (l3 : Int) (l4 : Int) (h : JM) (res : (Int × JM)), k40 l1 l2 l3 l4 h = some res → Ev j_W1 2 0 0 T12_lose 40 [(0, .inr (.inr (some (12, 0)))), (1, .inl (l1)), (2, .inl (l2)), (3, .inl (l3)), (4, .inl (l4))] [] h (some (.inl res.1)) res.2) (l1 : Int) (l2 : Int) (l3 : Int) (l4 : Int) (h : JM) (res : (Int × JM)) (H : F12_lose_40b k40 l1 l2 l3 l4 h = some res) : Ev j_W1 2 0 0 T12_lose 40 [(0, .inr (.inr (some (12, 0)))), (1, .inl (l1)), (2, .inl (l2)), (3, .inl (l3)), (4, .inl (l4))] [] h (some (.inl res.1)) res.2 := by
  unfold F12_lose_40b at H
  refine ev_iload 4 dX12_lose_40 (k := ?_)
  refine ev_aload_n 0 dX12_lose_42 (k := ?_)
  refine ev_getI (x := h.1 12 0 79) fl_X12_425 dX12_lose_43 (K := ?_)
  refine ev_icmpge 101 dX12_lose_46 (kt := fun hc => ?_) (kf := fun hc => ?_)
  · replace H := if_pe hc H
    refine ev_aload_n 0 dX12_lose_101 (k := ?_)
    refine ev_iload_n 3 dX12_lose_102 (k := ?_)
    obtain ⟨h1, eh1, H1⟩ := lt_e H
    clear H
    refine ev_putI j_ok1 fl_X12_425 eh1 dX12_lose_103 (K := ?_)
    refine ev_aload_n 0 dX12_lose_106 (k := ?_)
    refine ev_getI (x := h1.1 12 0 79) fl_X12_425 dX12_lose_107 (K := ?_)
    refine ev_sipush dX12_lose_110 (k := ?_)
    refine ev_icmpne 119 dX12_lose_113 (kt := fun hc => ?_) (kf := fun hc => ?_)
    · replace H1 := if_ne hc H1
      refine ev_aload_n 0 dX12_lose_119 (k := ?_)
      refine ev_getR (t := 180) (x := some (180, 0)) fl_X12_225 dX12_lose_120 (hx := ry_12_80 _ _) (K := ?_)
      refine ev_aload_n 0 dX12_lose_123 (k := ?_)
      refine ev_getI (x := h1.1 12 0 79) fl_X12_425 dX12_lose_124 (K := ?_)
      refine ev_iload_n 1 dX12_lose_127 (k := ?_)
      obtain ⟨⟨hi0, hi1⟩, H2⟩ := g_e H1
      clear H1
      obtain ⟨h2, eh2, H3⟩ := lt_e H2
      clear H2
      refine ev_iastore (k := 180) j_ok1 hi0 hi1 eh2 dX12_lose_128 (hc := ac_180) (hlen := ln_180 _ _) (K := ?_)
      refine ev_aload_n 0 dX12_lose_129 (k := ?_)
      refine ev_getR (t := 181) (x := some (181, 0)) fl_X12_228 dX12_lose_130 (hx := ry_12_81 _ _) (K := ?_)
      refine ev_aload_n 0 dX12_lose_133 (k := ?_)
      refine ev_dup dX12_lose_134 (k := ?_)
      refine ev_getI (x := h2.1 12 0 79) fl_X12_425 dX12_lose_135 (K := ?_)
      refine ev_dup_x1 dX12_lose_138 (k := ?_)
      refine ev_iconst dX12_lose_139 (k := ?_)
      refine ev_iadd dX12_lose_140 (k := ?_)
      obtain ⟨h3, eh3, H4⟩ := lt_e H3
      clear H3
      refine ev_putI j_ok1 fl_X12_425 eh3 dX12_lose_141 (K := ?_)
      refine ev_iload_n 2 dX12_lose_144 (k := ?_)
      obtain ⟨⟨hi0, hi1⟩, H5⟩ := g_e H4
      clear H4
      obtain ⟨h4, eh4, H6⟩ := lt_e H5
      clear H5
      refine ev_iastore (k := 181) j_ok1 hi0 hi1 eh4 dX12_lose_145 (hc := ac_181) (hlen := ln_181 _ _) (K := ?_)
      refine ev_aload_n 0 dX12_lose_146 (k := ?_)
      refine ev_getI (x := h4.1 12 0 79) fl_X12_425 dX12_lose_147 (K := ?_)
      cases H6
      exact ev_ireturn dX12_lose_150
    · replace H1 := if_pe hc H1
      refine ev_bipush dX12_lose_116 (k := ?_)
      cases H1
      exact ev_ireturn dX12_lose_118
  · replace H := if_ne hc H
    refine ev_aload_n 0 dX12_lose_49 (k := ?_)
    refine ev_getR (t := 181) (x := some (181, 0)) fl_X12_228 dX12_lose_50 (hx := ry_12_81 _ _) (K := ?_)
    refine ev_iload 4 dX12_lose_53 (k := ?_)
    obtain ⟨⟨hi0, hi1⟩, H1⟩ := g_e H
    clear H
    refine ev_iaload (k := 181) hi0 hi1 dX12_lose_55 (hc := ac_181) (hlen := ln_181 _ _) (K := ?_)
    refine ev_aload_n 0 dX12_lose_56 (k := ?_)
    refine ev_getI (x := h.1 12 0 2) fl_X12_285 dX12_lose_57 (K := ?_)
    refine ev_icmpge 66 dX12_lose_60 (kt := fun hc => ?_) (kf := fun hc => ?_)
    · replace H1 := if_pe hc H1
      refine ev_aload_n 0 dX12_lose_66 (k := ?_)
      refine ev_getR (t := 180) (x := some (180, 0)) fl_X12_225 dX12_lose_67 (hx := ry_12_80 _ _) (K := ?_)
      refine ev_iload_n 3 dX12_lose_70 (k := ?_)
      refine ev_aload_n 0 dX12_lose_71 (k := ?_)
      refine ev_getR (t := 180) (x := some (180, 0)) fl_X12_225 dX12_lose_72 (hx := ry_12_80 _ _) (K := ?_)
      refine ev_iload 4 dX12_lose_75 (k := ?_)
      obtain ⟨⟨hi0, hi1⟩, H2⟩ := g_e H1
      clear H1
      refine ev_iaload (k := 180) hi0 hi1 dX12_lose_77 (hc := ac_180) (hlen := ln_180 _ _) (K := ?_)
      obtain ⟨⟨hi0, hi1⟩, H3⟩ := g_e H2
      clear H2
      obtain ⟨h5, eh5, H4⟩ := lt_e H3
      clear H3
      refine ev_iastore (k := 180) j_ok1 hi0 hi1 eh5 dX12_lose_78 (hc := ac_180) (hlen := ln_180 _ _) (K := ?_)
      refine ev_aload_n 0 dX12_lose_79 (k := ?_)
      refine ev_getR (t := 181) (x := some (181, 0)) fl_X12_228 dX12_lose_80 (hx := ry_12_81 _ _) (K := ?_)
      refine ev_iload_n 3 dX12_lose_83 (k := ?_)
      refine ev_iinc 3 [(3, .inl (w32 (l3 + 1))), (0, .inr (.inr (some (12, 0)))), (1, .inl (l1)), (2, .inl (l2)), (4, .inl (l4))] dX12_lose_84 (k := ?_)
      refine ev_aload_n 1 dX12_lose_87 (k := ?_)
      refine ev_getR (t := 181) (x := some (181, 0)) fl_X12_228 dX12_lose_88 (hx := ry_12_81 _ _) (K := ?_)
      refine ev_iload 4 dX12_lose_91 (k := ?_)
      obtain ⟨⟨hi0, hi1⟩, H5⟩ := g_e H4
      clear H4
      refine ev_iaload (k := 181) hi0 hi1 dX12_lose_93 (hc := ac_181) (hlen := ln_181 _ _) (K := ?_)
      obtain ⟨⟨hi0, hi1⟩, H6⟩ := g_e H5
      clear H5
      obtain ⟨h6, eh6, H7⟩ := lt_e H6
      clear H6
      refine ev_iastore (k := 181) j_ok1 hi0 hi1 eh6 dX12_lose_94 (hc := ac_181) (hlen := ln_181 _ _) (K := ?_)
      refine ev_lv [1, 2, 3, 0, 4] [(0, .inr (.inr (some (12, 0)))), (1, .inl (l1)), (2, .inl (l2)), (3, .inl (w32 (l3 + 1))), (4, .inl (l4))] (k := ?_)
      exact E12_lose_95 k40 hk40 l1 l2 (w32 (l3 + 1)) l4 h6 _ H7
    · replace H1 := if_ne hc H1
      refine ev_goto 95 dX12_lose_63 (k := ?_)
      exact E12_lose_95 k40 hk40 l1 l2 l3 l4 h _ H1
theorem E12_lose_40 (n : Nat) : ∀ (l1 : Int) (l2 : Int) (l3 : Int) (l4 : Int) (h : JM) (res : (Int × JM)), F12_lose_40 n l1 l2 l3 l4 h = some res → Ev j_W1 2 0 0 T12_lose 40 [(0, .inr (.inr (some (12, 0)))), (1, .inl (l1)), (2, .inl (l2)), (3, .inl (l3)), (4, .inl (l4))] [] h (some (.inl res.1)) res.2 := by
  induction n with
  | zero =>
    intro l1 l2 l3 l4 h res H
    cases H
  | succ n ih =>
    intro l1 l2 l3 l4 h res H
    exact E12_lose_40b (F12_lose_40 n) ih l1 l2 l3 l4 h res H
set_option maxRecDepth 100000 in
set_option maxHeartbeats 4000000 in
theorem E12_lose_32 (h : JM) (res : (Int × JM)) (H : F12_lose_32 h = some res) : Ev j_W1 2 0 0 T12_lose 32 [] [] h (some (.inl res.1)) res.2 := by
  unfold F12_lose_32 at H
  refine ev_bipush dX12_lose_32 (k := ?_)
  cases H
  exact ev_ireturn dX12_lose_34
set_option maxRecDepth 100000 in
set_option maxHeartbeats 4000000 in
theorem C12_lose {l1 : Int} {l2 : Int} {h : JM} {res : (Int × JM)} (H : F12_lose l1 l2 h = some res) : Cn j_W1 2 0 0 yX12_lose cX12_lose 5 (some .int) [.inr (.inr (some (12, 0))), .inl (l1), .inl (l2)] h (some (.inl res.1)) res.2 := by
  refine Cn.by (own := RX12) (b := false) [(0, .inr (.inr (some (12, 0)))), (1, .inl (l1)), (2, .inl (l2))] rfl (fun z => by cases z) (by decide +kernel) (K := ?_)
  unfold F12_lose at H
  refine ev_iload_n 1 dX12_lose_0 (k := ?_)
  refine ev_i2l dX12_lose_1 (k := ?_)
  refine ev_lconst (v := 0) dX12_lose_2 (k := ?_)
  refine ev_lconst (v := 1) dX12_lose_3 (k := ?_)
  obtain ⟨q7, hq, H1⟩ := bd_e H
  clear H
  refine ev_callS (mc := 0) (ms := 0) (st := []) (C12_in hq) md_X12_in ss_X12_in ml_X12_268 dX12_lose_4 _ (by decide) (K := ?_)
  refine ev_ifeq 32 dX12_lose_7 (kt := fun hc => ?_) (kf := fun hc => ?_)
  · replace H1 := if_pe hc H1
    refine ev_lv [] [] (k := ?_)
    exact E12_lose_32 q7.2 _ H1
  · replace H1 := if_ne hc H1
    refine ev_iload_n 2 dX12_lose_10 (k := ?_)
    refine ev_i2l dX12_lose_11 (k := ?_)
    refine ev_aload_n 0 dX12_lose_12 (k := ?_)
    refine ev_getI (x := q7.2.1 12 0 2) fl_X12_285 dX12_lose_13 (K := ?_)
    refine ev_i2l dX12_lose_16 (k := ?_)
    refine ev_aload_n 0 dX12_lose_17 (k := ?_)
    refine ev_getI (x := q7.2.1 12 0 2) fl_X12_285 dX12_lose_18 (K := ?_)
    refine ev_i2l dX12_lose_21 (k := ?_)
    refine ev_ldc2 (n := 100000) cl_X12_418 dX12_lose_22 (k := ?_)
    refine ev_ladd dX12_lose_25 (k := ?_)
    obtain ⟨q8, hq, H2⟩ := bd_e H1
    clear H1
    refine ev_callS (mc := 0) (ms := 0) (st := []) (C12_in hq) md_X12_in ss_X12_in ml_X12_268 dX12_lose_26 _ (by decide) (K := ?_)
    refine ev_ifne 35 dX12_lose_29 (kt := fun hc => ?_) (kf := fun hc => ?_)
    · replace H2 := if_ne hc H2
      refine ev_iconst dX12_lose_35 (k := ?_)
      refine ev_istore_n [(3, .inl (0)), (0, .inr (.inr (some (12, 0)))), (1, .inl (l1)), (2, .inl (l2))] dX12_lose_36 (k := ?_)
      refine ev_iconst dX12_lose_37 (k := ?_)
      refine ev_istore [(4, .inl (0)), (3, .inl (0)), (0, .inr (.inr (some (12, 0)))), (1, .inl (l1)), (2, .inl (l2))] dX12_lose_38 (k := ?_)
      refine ev_lv [2, 3, 4, 1, 0] [(0, .inr (.inr (some (12, 0)))), (1, .inl (l1)), (2, .inl (l2)), (3, .inl (0)), (4, .inl (0))] (k := ?_)
      exact E12_lose_40 j_fu l1 l2 0 0 q8.2 _ H2
    · replace H2 := if_pe hc H2
      refine ev_lv [] [] (k := ?_)
      exact E12_lose_32 q8.2 _ H2
