-- X12_keyless
abbrev T12_keyless : JT := (RX12, cX12_keyless, 2, some .int, false)
set_option maxRecDepth 100000 in
set_option maxHeartbeats 4000000 in
theorem C12_keyless {h : JM} {res : (Int × JM)} (H : F12_keyless h = some res) : Cn j_W1 1 0 0 yX12_keyless cX12_keyless 2 (some .int) [.inr (.inr (some (12, 0)))] h (some (.inl res.1)) res.2 := by
  refine Cn.by (own := RX12) (b := false) [(0, .inr (.inr (some (12, 0))))] rfl (fun z => by cases z) (by decide +kernel) (K := ?_)
  unfold F12_keyless at H
  refine ev_aload_n (M := T12_keyless) (pc := 0) 0 dX12_keyless_0 (k := ?_)
  refine ev_getI (M := T12_keyless) (pc := 1) (x := h.1 12 0 4) fl_X12_272 dX12_keyless_1 (K := ?_)
  obtain ⟨x1, ex1, H1⟩ := lt_e H
  clear H
  refine ev_topI ex1 ?_
  refine ev_istore_n (M := T12_keyless) (pc := 4) [(1, .inl (x1)), (0, .inr (.inr (some (12, 0))))] dX12_keyless_4 (k := ?_)
  refine ev_aload_n (M := T12_keyless) (pc := 5) 1 dX12_keyless_5 (k := ?_)
  refine ev_iconst (M := T12_keyless) (pc := 6) dX12_keyless_6 (k := ?_)
  obtain ⟨h2, eh2, H2⟩ := lt_e H1
  clear H1
  refine ev_putI (M := T12_keyless) (pc := 7) j_ok1 fl_X12_272 eh2 dX12_keyless_7 (K := ?_)
  refine ev_iload_n (M := T12_keyless) (pc := 10) 0 dX12_keyless_10 (k := ?_)
  cases H2
  exact ev_ireturn (M := T12_keyless) (pc := 11) dX12_keyless_11
-- X12_lifts
abbrev T12_lifts : JT := (RX12, cX12_lifts, 3, none, false)
set_option maxRecDepth 100000 in
set_option maxHeartbeats 4000000 in
theorem C12_lifts {l1 : Int} {h : JM} {res : JM} (H : F12_lifts l1 h = some res) : Cn j_W1 6 0 0 yX12_lifts cX12_lifts 3 none [.inr (.inr (some (12, 0))), .inl (l1)] h none res := by
  refine Cn.by (own := RX12) (b := false) [(0, .inr (.inr (some (12, 0)))), (1, .inl (l1))] rfl (fun z => by cases z) (by decide +kernel) (K := ?_)
  unfold F12_lifts at H
  refine ev_aload_n (M := T12_lifts) (pc := 0) 0 dX12_lifts_0 (k := ?_)
  refine ev_getR (M := T12_lifts) (pc := 1) (t := 112) (x := some (112, 0)) fl_X12_34 dX12_lifts_1 (hx := ry_12_12 _ _) (K := ?_)
  refine ev_iload_n (M := T12_lifts) (pc := 4) 1 dX12_lifts_4 (k := ?_)
  refine ev_iconst (M := T12_lifts) (pc := 5) dX12_lifts_5 (k := ?_)
  obtain ⟨⟨hi0, hi1⟩, H1⟩ := g_e H
  clear H
  obtain ⟨h1, eh1, H2⟩ := lt_e H1
  clear H1
  refine ev_zastore (M := T12_lifts) (pc := 6) (k := 112) j_ok1 hi0 hi1 (Or.inr rfl) eh1 dX12_lifts_6 (hc := ac_112) (hlen := ln_112 _ _) (K := ?_)
  refine ev_aload_n (M := T12_lifts) (pc := 7) 0 dX12_lifts_7 (k := ?_)
  refine ev_iload_n (M := T12_lifts) (pc := 8) 1 dX12_lifts_8 (k := ?_)
  obtain ⟨h2, hq, H3⟩ := bd_e H2
  clear H2
  refine ev_callV (M := T12_lifts) (pc := 9) (mc := 0) (ms := 0) (st := []) (C12_clears hq) md_X12_clears im_X12_clears se_X12_clears ml_X12_314 dX12_lifts_9 _ (by decide) (K := ?_)
  refine ev_aload_n (M := T12_lifts) (pc := 12) 0 dX12_lifts_12 (k := ?_)
  refine ev_getR (M := T12_lifts) (pc := 13) (t := 124) (x := some (124, 0)) fl_X12_71 dX12_lifts_13 (hx := ry_12_24 _ _) (K := ?_)
  refine ev_iload_n (M := T12_lifts) (pc := 16) 1 dX12_lifts_16 (k := ?_)
  refine ev_iconst (M := T12_lifts) (pc := 17) dX12_lifts_17 (k := ?_)
  obtain ⟨⟨hi0, hi1⟩, H4⟩ := g_e H3
  clear H3
  obtain ⟨h3, eh3, H5⟩ := lt_e H4
  clear H4
  refine ev_zastore (M := T12_lifts) (pc := 18) (k := 124) j_ok1 hi0 hi1 (Or.inl rfl) eh3 dX12_lifts_18 (hc := ac_124) (hlen := ln_124 _ _) (K := ?_)
  refine ev_aload_n (M := T12_lifts) (pc := 19) 0 dX12_lifts_19 (k := ?_)
  refine ev_getR (M := T12_lifts) (pc := 20) (t := 121) (x := some (121, 0)) fl_X12_62 dX12_lifts_20 (hx := ry_12_21 _ _) (K := ?_)
  refine ev_iload_n (M := T12_lifts) (pc := 23) 1 dX12_lifts_23 (k := ?_)
  obtain ⟨⟨hi0, hi1⟩, H6⟩ := g_e H5
  clear H5
  refine ev_iaload (M := T12_lifts) (pc := 24) (k := 121) hi0 hi1 dX12_lifts_24 (hc := ac_121) (hlen := ln_121 _ _) (K := ?_)
  obtain ⟨x4, ex4, H7⟩ := lt_e H6
  clear H6
  refine ev_topI ex4 ?_
  refine ev_istore_n (M := T12_lifts) (pc := 25) [(2, .inl (x4)), (0, .inr (.inr (some (12, 0)))), (1, .inl (l1))] dX12_lifts_25 (k := ?_)
  refine ev_aload_n (M := T12_lifts) (pc := 26) 1 dX12_lifts_26 (k := ?_)
  refine ev_getR (M := T12_lifts) (pc := 27) (t := 121) (x := some (121, 0)) fl_X12_62 dX12_lifts_27 (hx := ry_12_21 _ _) (K := ?_)
  refine ev_iload_n (M := T12_lifts) (pc := 30) 2 dX12_lifts_30 (k := ?_)
  refine ev_iconst (M := T12_lifts) (pc := 31) dX12_lifts_31 (k := ?_)
  obtain ⟨⟨hi0, hi1⟩, H8⟩ := g_e H7
  clear H7
  obtain ⟨h5, eh5, H9⟩ := lt_e H8
  clear H8
  refine ev_iastore (M := T12_lifts) (pc := 32) (k := 121) j_ok1 hi0 hi1 eh5 dX12_lifts_32 (hc := ac_121) (hlen := ln_121 _ _) (K := ?_)
  refine ev_iload_n (M := T12_lifts) (pc := 33) 0 dX12_lifts_33 (k := ?_)
  refine ev_iconst (M := T12_lifts) (pc := 34) dX12_lifts_34 (k := ?_)
  refine ev_icmpne (M := T12_lifts) (pc := 35) 56 dX12_lifts_35 (kt := fun hc => ?_) (kf := fun hc => ?_)
  · replace H9 := if_ne hc H9
    refine ev_aload_n (M := T12_lifts) (pc := 56) 1 dX12_lifts_56 (k := ?_)
    refine ev_getR (M := T12_lifts) (pc := 57) (t := 119) (x := some (119, 0)) fl_X12_56 dX12_lifts_57 (hx := ry_12_19 _ _) (K := ?_)
    refine ev_iload_n (M := T12_lifts) (pc := 60) 2 dX12_lifts_60 (k := ?_)
    refine ev_iload_n (M := T12_lifts) (pc := 61) 0 dX12_lifts_61 (k := ?_)
    obtain ⟨⟨hi0, hi1⟩, H10⟩ := g_e H9
    clear H9
    obtain ⟨h6, eh6, H11⟩ := lt_e H10
    clear H10
    refine ev_iastore (M := T12_lifts) (pc := 62) (k := 119) j_ok1 hi0 hi1 eh6 dX12_lifts_62 (hc := ac_119) (hlen := ln_119 _ _) (K := ?_)
    refine ev_aload_n (M := T12_lifts) (pc := 63) 1 dX12_lifts_63 (k := ?_)
    refine ev_iload_n (M := T12_lifts) (pc := 64) 0 dX12_lifts_64 (k := ?_)
    obtain ⟨h7, hq, H12⟩ := bd_e H11
    clear H11
    refine ev_callV (M := T12_lifts) (pc := 65) (mc := 0) (ms := 0) (st := []) (C12_answered hq) md_X12_answered im_X12_answered se_X12_answered ml_X12_320 dX12_lifts_65 _ (by decide) (K := ?_)
    cases H12
    exact ev_return (M := T12_lifts) (pc := 68) dX12_lifts_68
  · replace H9 := if_pe hc H9
    refine ev_aload_n (M := T12_lifts) (pc := 38) 1 dX12_lifts_38 (k := ?_)
    refine ev_getR (M := T12_lifts) (pc := 39) (t := 119) (x := some (119, 0)) fl_X12_56 dX12_lifts_39 (hx := ry_12_19 _ _) (K := ?_)
    refine ev_iload_n (M := T12_lifts) (pc := 42) 2 dX12_lifts_42 (k := ?_)
    refine ev_aload_n (M := T12_lifts) (pc := 43) 1 dX12_lifts_43 (k := ?_)
    refine ev_iload_n (M := T12_lifts) (pc := 44) 2 dX12_lifts_44 (k := ?_)
    refine ev_bipush (M := T12_lifts) (pc := 45) dX12_lifts_45 (k := ?_)
    refine ev_idiv (M := T12_lifts) (pc := 47) dX12_lifts_47 (by decide) (k := ?_)
    refine ev_iload_n (M := T12_lifts) (pc := 48) 2 dX12_lifts_48 (k := ?_)
    obtain ⟨q8, hq, H10⟩ := bd_e H9
    clear H9
    refine ev_callV (M := T12_lifts) (pc := 49) (mc := 0) (ms := 0) (st := [.inl (l1), .inr (.inr (some (119, 0)))]) (C12_makes hq) md_X12_makes im_X12_makes se_X12_makes ml_X12_317 dX12_lifts_49 _ (by decide) (K := ?_)
    obtain ⟨⟨hi0, hi1⟩, H11⟩ := g_e H10
    clear H10
    obtain ⟨h9, eh9, H12⟩ := lt_e H11
    clear H11
    refine ev_iastore (M := T12_lifts) (pc := 52) (k := 119) j_ok1 hi0 hi1 eh9 dX12_lifts_52 (hc := ac_119) (hlen := ln_119 _ _) (K := ?_)
    refine ev_goto (M := T12_lifts) (pc := 53) 68 dX12_lifts_53 (k := ?_)
    cases H12
    exact ev_return (M := T12_lifts) (pc := 68) dX12_lifts_68
-- X12_sounds
abbrev T12_sounds : JT := (RX12, cX12_sounds, 3, some .int, false)
set_option maxRecDepth 100000 in
set_option maxHeartbeats 4000000 in
theorem E12_sounds_136 (h : JM) (res : (Int × JM)) (H : F12_sounds_136 h = some res) : Ev j_W1 1 0 0 T12_sounds 136 [] [] h (some (.inl res.1)) res.2 := by
  unfold F12_sounds_136 at H
  refine ev_bipush (M := T12_sounds) (pc := 136) dX12_sounds_136 (k := ?_)
  cases H
  exact ev_ireturn (M := T12_sounds) (pc := 138) dX12_sounds_138
set_option maxRecDepth 100000 in
set_option maxHeartbeats 4000000 in
theorem C12_sounds {l1 : Int} {h : JM} {res : (Int × JM)} (H : F12_sounds l1 h = some res) : Cn j_W1 1 0 0 yX12_sounds cX12_sounds 3 (some .int) [.inr (.inr (some (12, 0))), .inl (l1)] h (some (.inl res.1)) res.2 := by
  refine Cn.by (own := RX12) (b := false) [(0, .inr (.inr (some (12, 0)))), (1, .inl (l1))] rfl (fun z => by cases z) (by decide +kernel) (K := ?_)
  unfold F12_sounds at H
  refine ev_aload_n (M := T12_sounds) (pc := 0) 0 dX12_sounds_0 (k := ?_)
  refine ev_getR (M := T12_sounds) (pc := 1) (t := 112) (x := some (112, 0)) fl_X12_34 dX12_sounds_1 (hx := ry_12_12 _ _) (K := ?_)
  refine ev_iload_n (M := T12_sounds) (pc := 4) 1 dX12_sounds_4 (k := ?_)
  obtain ⟨⟨hi0, hi1⟩, H1⟩ := g_e H
  clear H
  refine ev_zaload (M := T12_sounds) (pc := 5) (k := 112) hi0 hi1 dX12_sounds_5 (hc := ac_112) (hlen := ln_112 _ _) (K := ?_)
  refine ev_ifne (M := T12_sounds) (pc := 6) 25 dX12_sounds_6 (kt := fun hc => ?_) (kf := fun hc => ?_)
  · replace H1 := if_ne hc H1
    refine ev_aload_n (M := T12_sounds) (pc := 25) 0 dX12_sounds_25 (k := ?_)
    refine ev_getR (M := T12_sounds) (pc := 26) (t := 119) (x := some (119, 0)) fl_X12_56 dX12_sounds_26 (hx := ry_12_19 _ _) (K := ?_)
    refine ev_iload_n (M := T12_sounds) (pc := 29) 1 dX12_sounds_29 (k := ?_)
    obtain ⟨⟨hi0, hi1⟩, H2⟩ := g_e H1
    clear H1
    refine ev_iaload (M := T12_sounds) (pc := 30) (k := 119) hi0 hi1 dX12_sounds_30 (hc := ac_119) (hlen := ln_119 _ _) (K := ?_)
    obtain ⟨x1, ex1, H3⟩ := lt_e H2
    clear H2
    refine ev_topI ex1 ?_
    refine ev_istore_n (M := T12_sounds) (pc := 31) [(2, .inl (x1)), (0, .inr (.inr (some (12, 0)))), (1, .inl (l1))] dX12_sounds_31 (k := ?_)
    refine ev_iload_n (M := T12_sounds) (pc := 32) 0 dX12_sounds_32 (k := ?_)
    refine ev_iconst (M := T12_sounds) (pc := 33) dX12_sounds_33 (k := ?_)
    refine ev_icmpne (M := T12_sounds) (pc := 34) 44 dX12_sounds_34 (kt := fun hc => ?_) (kf := fun hc => ?_)
    · replace H3 := if_ne hc H3
      refine ev_aload_n (M := T12_sounds) (pc := 44) 1 dX12_sounds_44 (k := ?_)
      refine ev_getR (M := T12_sounds) (pc := 45) (t := 133) (x := some (133, 0)) fl_X12_95 dX12_sounds_45 (hx := ry_12_33 _ _) (K := ?_)
      refine ev_iload_n (M := T12_sounds) (pc := 48) 0 dX12_sounds_48 (k := ?_)
      obtain ⟨⟨hi0, hi1⟩, H4⟩ := g_e H3
      clear H3
      refine ev_iaload (M := T12_sounds) (pc := 49) (k := 133) hi0 hi1 dX12_sounds_49 (hc := ac_133) (hlen := ln_133 _ _) (K := ?_)
      by_cases hs0 : h.1 133 0 x1 = 0
      · replace H4 := if_pe hs0 H4
        refine ev_tableIn (M := T12_sounds) (pc := 50) (off := 34) 84 dX12_sounds_50 (by omega) (by omega) (by rw [hs0]; rfl) (k := ?_)
        refine ev_aload_n (M := T12_sounds) (pc := 84) 1 dX12_sounds_84 (k := ?_)
        refine ev_getR (M := T12_sounds) (pc := 85) (t := 140) (x := some (140, 0)) fl_X12_116 dX12_sounds_85 (hx := ry_12_40 _ _) (K := ?_)
        refine ev_iload_n (M := T12_sounds) (pc := 88) 0 dX12_sounds_88 (k := ?_)
        obtain ⟨⟨hi0, hi1⟩, H5⟩ := g_e H4
        clear H4
        refine ev_iaload (M := T12_sounds) (pc := 89) (k := 140) hi0 hi1 dX12_sounds_89 (hc := ac_140) (hlen := ln_140 _ _) (K := ?_)
        refine ev_ifne (M := T12_sounds) (pc := 90) 97 dX12_sounds_90 (kt := fun hc => ?_) (kf := fun hc => ?_)
        · replace H5 := if_ne hc H5
          refine ev_iconst (M := T12_sounds) (pc := 97) dX12_sounds_97 (k := ?_)
          cases H5
          exact ev_ireturn (M := T12_sounds) (pc := 98) dX12_sounds_98
        · replace H5 := if_pe hc H5
          refine ev_iconst (M := T12_sounds) (pc := 93) dX12_sounds_93 (k := ?_)
          refine ev_goto (M := T12_sounds) (pc := 94) 98 dX12_sounds_94 (k := ?_)
          cases H5
          exact ev_ireturn (M := T12_sounds) (pc := 98) dX12_sounds_98
      · replace H4 := if_ne hs0 H4
        by_cases hs1 : h.1 133 0 x1 = 1
        · replace H4 := if_pe hs1 H4
          refine ev_tableIn (M := T12_sounds) (pc := 50) (off := 49) 99 dX12_sounds_50 (by omega) (by omega) (by rw [hs1]; rfl) (k := ?_)
          refine ev_iconst (M := T12_sounds) (pc := 99) dX12_sounds_99 (k := ?_)
          cases H4
          exact ev_ireturn (M := T12_sounds) (pc := 100) dX12_sounds_100
        · replace H4 := if_ne hs1 H4
          by_cases hs2 : h.1 133 0 x1 = 2
          · replace H4 := if_pe hs2 H4
            refine ev_tableIn (M := T12_sounds) (pc := 50) (off := 51) 101 dX12_sounds_50 (by omega) (by omega) (by rw [hs2]; rfl) (k := ?_)
            refine ev_iconst (M := T12_sounds) (pc := 101) dX12_sounds_101 (k := ?_)
            cases H4
            exact ev_ireturn (M := T12_sounds) (pc := 102) dX12_sounds_102
          · replace H4 := if_ne hs2 H4
            by_cases hs3 : h.1 133 0 x1 = 4
            · replace H4 := if_pe hs3 H4
              refine ev_tableIn (M := T12_sounds) (pc := 50) (off := 53) 103 dX12_sounds_50 (by omega) (by omega) (by rw [hs3]; rfl) (k := ?_)
              refine ev_bipush (M := T12_sounds) (pc := 103) dX12_sounds_103 (k := ?_)
              cases H4
              exact ev_ireturn (M := T12_sounds) (pc := 105) dX12_sounds_105
            · replace H4 := if_ne hs3 H4
              rcases (show (h.1 133 0 x1 < 0 ∨ 4 < h.1 133 0 x1) ∨ (h.1 133 0 x1 = 3) by omega) with hz | hz
              · refine ev_tableOut (M := T12_sounds) (pc := 50) 106 dX12_sounds_50 hz (k := ?_)
                refine ev_aload_n (M := T12_sounds) (pc := 106) 1 dX12_sounds_106 (k := ?_)
                refine ev_getR (M := T12_sounds) (pc := 107) (t := 120) (x := some (120, 0)) fl_X12_59 dX12_sounds_107 (hx := ry_12_20 _ _) (K := ?_)
                refine ev_iload_n (M := T12_sounds) (pc := 110) 2 dX12_sounds_110 (k := ?_)
                obtain ⟨⟨hi0, hi1⟩, H5⟩ := g_e H4
                clear H4
                refine ev_iaload (M := T12_sounds) (pc := 111) (k := 120) hi0 hi1 dX12_sounds_111 (hc := ac_120) (hlen := ln_120 _ _) (K := ?_)
                refine ev_iconst (M := T12_sounds) (pc := 112) dX12_sounds_112 (k := ?_)
                refine ev_icmpeq (M := T12_sounds) (pc := 113) 136 dX12_sounds_113 (kt := fun hc => ?_) (kf := fun hc => ?_)
                · replace H5 := if_pe hc H5
                  refine ev_lv [] [] (k := ?_)
                  exact E12_sounds_136 h _ H5
                · replace H5 := if_ne hc H5
                  refine ev_aload_n (M := T12_sounds) (pc := 116) 1 dX12_sounds_116 (k := ?_)
                  refine ev_getR (M := T12_sounds) (pc := 117) (t := 133) (x := some (133, 0)) fl_X12_95 dX12_sounds_117 (hx := ry_12_33 _ _) (K := ?_)
                  refine ev_aload_n (M := T12_sounds) (pc := 120) 1 dX12_sounds_120 (k := ?_)
                  refine ev_getR (M := T12_sounds) (pc := 121) (t := 120) (x := some (120, 0)) fl_X12_59 dX12_sounds_121 (hx := ry_12_20 _ _) (K := ?_)
                  refine ev_iload_n (M := T12_sounds) (pc := 124) 2 dX12_sounds_124 (k := ?_)
                  obtain ⟨⟨hi0, hi1⟩, H6⟩ := g_e H5
                  clear H5
                  refine ev_iaload (M := T12_sounds) (pc := 125) (k := 120) hi0 hi1 dX12_sounds_125 (hc := ac_120) (hlen := ln_120 _ _) (K := ?_)
                  obtain ⟨⟨hi0, hi1⟩, H7⟩ := g_e H6
                  clear H6
                  refine ev_iaload (M := T12_sounds) (pc := 126) (k := 133) hi0 hi1 dX12_sounds_126 (hc := ac_133) (hlen := ln_133 _ _) (K := ?_)
                  refine ev_iconst (M := T12_sounds) (pc := 127) dX12_sounds_127 (k := ?_)
                  refine ev_icmpne (M := T12_sounds) (pc := 128) 136 dX12_sounds_128 (kt := fun hc => ?_) (kf := fun hc => ?_)
                  · replace H7 := if_ne hc H7
                    refine ev_lv [] [] (k := ?_)
                    exact E12_sounds_136 h _ H7
                  · replace H7 := if_pe hc H7
                    refine ev_bipush (M := T12_sounds) (pc := 131) dX12_sounds_131 (k := ?_)
                    refine ev_goto (M := T12_sounds) (pc := 133) 138 dX12_sounds_133 (k := ?_)
                    cases H7
                    exact ev_ireturn (M := T12_sounds) (pc := 138) dX12_sounds_138
              · refine ev_tableIn (M := T12_sounds) (pc := 50) (off := 56) 106 dX12_sounds_50 (by omega) (by omega) (by rw [hz]; rfl) (k := ?_)
                refine ev_aload_n (M := T12_sounds) (pc := 106) 1 dX12_sounds_106 (k := ?_)
                refine ev_getR (M := T12_sounds) (pc := 107) (t := 120) (x := some (120, 0)) fl_X12_59 dX12_sounds_107 (hx := ry_12_20 _ _) (K := ?_)
                refine ev_iload_n (M := T12_sounds) (pc := 110) 2 dX12_sounds_110 (k := ?_)
                obtain ⟨⟨hi0, hi1⟩, H5⟩ := g_e H4
                clear H4
                refine ev_iaload (M := T12_sounds) (pc := 111) (k := 120) hi0 hi1 dX12_sounds_111 (hc := ac_120) (hlen := ln_120 _ _) (K := ?_)
                refine ev_iconst (M := T12_sounds) (pc := 112) dX12_sounds_112 (k := ?_)
                refine ev_icmpeq (M := T12_sounds) (pc := 113) 136 dX12_sounds_113 (kt := fun hc => ?_) (kf := fun hc => ?_)
                · replace H5 := if_pe hc H5
                  refine ev_lv [] [] (k := ?_)
                  exact E12_sounds_136 h _ H5
                · replace H5 := if_ne hc H5
                  refine ev_aload_n (M := T12_sounds) (pc := 116) 1 dX12_sounds_116 (k := ?_)
                  refine ev_getR (M := T12_sounds) (pc := 117) (t := 133) (x := some (133, 0)) fl_X12_95 dX12_sounds_117 (hx := ry_12_33 _ _) (K := ?_)
                  refine ev_aload_n (M := T12_sounds) (pc := 120) 1 dX12_sounds_120 (k := ?_)
                  refine ev_getR (M := T12_sounds) (pc := 121) (t := 120) (x := some (120, 0)) fl_X12_59 dX12_sounds_121 (hx := ry_12_20 _ _) (K := ?_)
                  refine ev_iload_n (M := T12_sounds) (pc := 124) 2 dX12_sounds_124 (k := ?_)
                  obtain ⟨⟨hi0, hi1⟩, H6⟩ := g_e H5
                  clear H5
                  refine ev_iaload (M := T12_sounds) (pc := 125) (k := 120) hi0 hi1 dX12_sounds_125 (hc := ac_120) (hlen := ln_120 _ _) (K := ?_)
                  obtain ⟨⟨hi0, hi1⟩, H7⟩ := g_e H6
                  clear H6
                  refine ev_iaload (M := T12_sounds) (pc := 126) (k := 133) hi0 hi1 dX12_sounds_126 (hc := ac_133) (hlen := ln_133 _ _) (K := ?_)
                  refine ev_iconst (M := T12_sounds) (pc := 127) dX12_sounds_127 (k := ?_)
                  refine ev_icmpne (M := T12_sounds) (pc := 128) 136 dX12_sounds_128 (kt := fun hc => ?_) (kf := fun hc => ?_)
                  · replace H7 := if_ne hc H7
                    refine ev_lv [] [] (k := ?_)
                    exact E12_sounds_136 h _ H7
                  · replace H7 := if_pe hc H7
                    refine ev_bipush (M := T12_sounds) (pc := 131) dX12_sounds_131 (k := ?_)
                    refine ev_goto (M := T12_sounds) (pc := 133) 138 dX12_sounds_133 (k := ?_)
                    cases H7
                    exact ev_ireturn (M := T12_sounds) (pc := 138) dX12_sounds_138
    · replace H3 := if_pe hc H3
      refine ev_aload_n (M := T12_sounds) (pc := 37) 1 dX12_sounds_37 (k := ?_)
      refine ev_getR (M := T12_sounds) (pc := 38) (t := 123) (x := some (123, 0)) fl_X12_68 dX12_sounds_38 (hx := ry_12_23 _ _) (K := ?_)
      refine ev_iload_n (M := T12_sounds) (pc := 41) 2 dX12_sounds_41 (k := ?_)
      obtain ⟨⟨hi0, hi1⟩, H4⟩ := g_e H3
      clear H3
      refine ev_iaload (M := T12_sounds) (pc := 42) (k := 123) hi0 hi1 dX12_sounds_42 (hc := ac_123) (hlen := ln_123 _ _) (K := ?_)
      cases H4
      exact ev_ireturn (M := T12_sounds) (pc := 43) dX12_sounds_43
  · replace H1 := if_pe hc H1
    refine ev_aload_n (M := T12_sounds) (pc := 9) 0 dX12_sounds_9 (k := ?_)
    refine ev_getR (M := T12_sounds) (pc := 10) (t := 121) (x := some (121, 0)) fl_X12_62 dX12_sounds_10 (hx := ry_12_21 _ _) (K := ?_)
    refine ev_iload_n (M := T12_sounds) (pc := 13) 1 dX12_sounds_13 (k := ?_)
    obtain ⟨⟨hi0, hi1⟩, H2⟩ := g_e H1
    clear H1
    refine ev_iaload (M := T12_sounds) (pc := 14) (k := 121) hi0 hi1 dX12_sounds_14 (hc := ac_121) (hlen := ln_121 _ _) (K := ?_)
    refine ev_iconst (M := T12_sounds) (pc := 15) dX12_sounds_15 (k := ?_)
    refine ev_icmpne (M := T12_sounds) (pc := 16) 23 dX12_sounds_16 (kt := fun hc => ?_) (kf := fun hc => ?_)
    · replace H2 := if_ne hc H2
      refine ev_iconst (M := T12_sounds) (pc := 23) dX12_sounds_23 (k := ?_)
      cases H2
      exact ev_ireturn (M := T12_sounds) (pc := 24) dX12_sounds_24
    · replace H2 := if_pe hc H2
      refine ev_iconst (M := T12_sounds) (pc := 19) dX12_sounds_19 (k := ?_)
      refine ev_goto (M := T12_sounds) (pc := 20) 24 dX12_sounds_20 (k := ?_)
      cases H2
      exact ev_ireturn (M := T12_sounds) (pc := 24) dX12_sounds_24
-- X12_line
abbrev T12_line : JT := (RX12, cX12_line, 5, some .int, false)
set_option maxRecDepth 100000 in
set_option maxHeartbeats 4000000 in
theorem E12_line_19 (h : JM) (res : (Int × JM)) (H : F12_line_19 h = some res) : Ev j_W1 3 0 0 T12_line 19 [] [] h (some (.inl res.1)) res.2 := by
  unfold F12_line_19 at H
  refine ev_bipush (M := T12_line) (pc := 19) dX12_line_19 (k := ?_)
  cases H
  exact ev_ireturn (M := T12_line) (pc := 21) dX12_line_21
set_option maxRecDepth 100000 in
set_option maxHeartbeats 4000000 in
theorem C12_line {l1 : Int} {l2 : Int} {h : JM} {res : (Int × JM)} (H : F12_line l1 l2 h = some res) : Cn j_W1 3 0 0 yX12_line cX12_line 5 (some .int) [.inr (.inr (some (12, 0))), .inl (l1), .inl (l2)] h (some (.inl res.1)) res.2 := by
  refine Cn.by (own := RX12) (b := false) [(0, .inr (.inr (some (12, 0)))), (1, .inl (l1)), (2, .inl (l2))] rfl (fun z => by cases z) (by decide +kernel) (K := ?_)
  unfold F12_line at H
  refine ev_iload_n (M := T12_line) (pc := 0) 1 dX12_line_0 (k := ?_)
  obtain ⟨q1, hq, H1⟩ := bd_e H
  clear H
  refine ev_callS (M := T12_line) (pc := 1) (mc := 0) (ms := 0) (st := []) (C12_isLine hq) md_X12_isLine ss_X12_isLine ml_X12_288 dX12_line_1 _ (by decide) (K := ?_)
  refine ev_ifeq (M := T12_line) (pc := 4) 19 dX12_line_4 (kt := fun hc => ?_) (kf := fun hc => ?_)
  · replace H1 := if_pe hc H1
    refine ev_lv [] [] (k := ?_)
    exact E12_line_19 q1.2 _ H1
  · replace H1 := if_ne hc H1
    refine ev_iload_n (M := T12_line) (pc := 7) 2 dX12_line_7 (k := ?_)
    refine ev_i2l (M := T12_line) (pc := 8) dX12_line_8 (k := ?_)
    refine ev_lconst (M := T12_line) (pc := 9) (v := 0) dX12_line_9 (k := ?_)
    refine ev_ldc2 (M := T12_line) (pc := 10) (n := 8) cl_X12_508 dX12_line_10 (hv := cw_X12_508) (k := ?_)
    obtain ⟨q2, hq, H2⟩ := bd_e H1
    clear H1
    refine ev_callS (M := T12_line) (pc := 13) (mc := 0) (ms := 0) (st := []) (C12_in hq) md_X12_in ss_X12_in ml_X12_268 dX12_line_13 _ (by decide) (K := ?_)
    refine ev_ifne (M := T12_line) (pc := 16) 22 dX12_line_16 (kt := fun hc => ?_) (kf := fun hc => ?_)
    · replace H2 := if_ne hc H2
      refine ev_aload_n (M := T12_line) (pc := 22) 0 dX12_line_22 (k := ?_)
      refine ev_getR (M := T12_line) (pc := 23) (t := 119) (x := some (119, 0)) fl_X12_56 dX12_line_23 (hx := ry_12_19 _ _) (K := ?_)
      refine ev_iload_n (M := T12_line) (pc := 26) 1 dX12_line_26 (k := ?_)
      obtain ⟨⟨hi0, hi1⟩, H3⟩ := g_e H2
      clear H2
      refine ev_iaload (M := T12_line) (pc := 27) (k := 119) hi0 hi1 dX12_line_27 (hc := ac_119) (hlen := ln_119 _ _) (K := ?_)
      obtain ⟨x3, ex3, H4⟩ := lt_e H3
      clear H3
      refine ev_topI ex3 ?_
      refine ev_istore_n (M := T12_line) (pc := 28) [(3, .inl (x3)), (0, .inr (.inr (some (12, 0)))), (1, .inl (l1)), (2, .inl (l2))] dX12_line_28 (k := ?_)
      refine ev_aload_n (M := T12_line) (pc := 29) 1 dX12_line_29 (k := ?_)
      refine ev_getR (M := T12_line) (pc := 30) (t := 120) (x := some (120, 0)) fl_X12_59 dX12_line_30 (hx := ry_12_20 _ _) (K := ?_)
      refine ev_iload_n (M := T12_line) (pc := 33) 2 dX12_line_33 (k := ?_)
      obtain ⟨⟨hi0, hi1⟩, H5⟩ := g_e H4
      clear H4
      refine ev_iaload (M := T12_line) (pc := 34) (k := 120) hi0 hi1 dX12_line_34 (hc := ac_120) (hlen := ln_120 _ _) (K := ?_)
      obtain ⟨x4, ex4, H6⟩ := lt_e H5
      clear H5
      refine ev_topI ex4 ?_
      refine ev_istore (M := T12_line) (pc := 35) [(4, .inl (x4)), (3, .inl (x3)), (0, .inr (.inr (some (12, 0)))), (1, .inl (l1)), (2, .inl (l2))] dX12_line_35 (k := ?_)
      refine ev_iload_n (M := T12_line) (pc := 37) 4 dX12_line_37 (k := ?_)
      by_cases hs0 : l2 = 0
      · replace H6 := if_pe hs0 H6
        refine ev_tableIn (M := T12_line) (pc := 38) (off := 46) 84 dX12_line_38 (by omega) (by omega) (by rw [hs0]; rfl) (k := ?_)
        refine ev_aload_n (M := T12_line) (pc := 84) 2 dX12_line_84 (k := ?_)
        refine ev_getR (M := T12_line) (pc := 85) (t := 112) (x := some (112, 0)) fl_X12_34 dX12_line_85 (hx := ry_12_12 _ _) (K := ?_)
        refine ev_iload_n (M := T12_line) (pc := 88) 3 dX12_line_88 (k := ?_)
        obtain ⟨⟨hi0, hi1⟩, H7⟩ := g_e H6
        clear H6
        refine ev_zaload (M := T12_line) (pc := 89) (k := 112) hi0 hi1 dX12_line_89 (hc := ac_112) (hlen := ln_112 _ _) (K := ?_)
        refine ev_ifeq (M := T12_line) (pc := 90) 97 dX12_line_90 (kt := fun hc => ?_) (kf := fun hc => ?_)
        · replace H7 := if_pe hc H7
          refine ev_iconst (M := T12_line) (pc := 97) dX12_line_97 (k := ?_)
          cases H7
          exact ev_ireturn (M := T12_line) (pc := 98) dX12_line_98
        · replace H7 := if_ne hc H7
          refine ev_iconst (M := T12_line) (pc := 93) dX12_line_93 (k := ?_)
          refine ev_goto (M := T12_line) (pc := 94) 98 dX12_line_94 (k := ?_)
          cases H7
          exact ev_ireturn (M := T12_line) (pc := 98) dX12_line_98
      · replace H6 := if_ne hs0 H6
        by_cases hs1 : l2 = 1
        · replace H6 := if_pe hs1 H6
          refine ev_tableIn (M := T12_line) (pc := 38) (off := 61) 99 dX12_line_38 (by omega) (by omega) (by rw [hs1]; rfl) (k := ?_)
          refine ev_aload_n (M := T12_line) (pc := 99) 2 dX12_line_99 (k := ?_)
          refine ev_iload_n (M := T12_line) (pc := 100) 3 dX12_line_100 (k := ?_)
          obtain ⟨q5, hq, H7⟩ := bd_e H6
          clear H6
          refine ev_callV (M := T12_line) (pc := 101) (mc := 0) (ms := 0) (st := []) (C12_sounds hq) md_X12_sounds im_X12_sounds se_X12_sounds ml_X12_510 dX12_line_101 _ (by decide) (K := ?_)
          cases H7
          exact ev_ireturn (M := T12_line) (pc := 104) dX12_line_104
        · replace H6 := if_ne hs1 H6
          by_cases hs2 : l2 = 2
          · replace H6 := if_pe hs2 H6
            refine ev_tableIn (M := T12_line) (pc := 38) (off := 67) 105 dX12_line_38 (by omega) (by omega) (by rw [hs2]; rfl) (k := ?_)
            refine ev_iload_n (M := T12_line) (pc := 105) 1 dX12_line_105 (k := ?_)
            refine ev_iconst (M := T12_line) (pc := 106) dX12_line_106 (k := ?_)
            refine ev_icmpne (M := T12_line) (pc := 107) 114 dX12_line_107 (kt := fun hc => ?_) (kf := fun hc => ?_)
            · replace H6 := if_ne hc H6
              refine ev_aload_n (M := T12_line) (pc := 114) 2 dX12_line_114 (k := ?_)
              refine ev_getR (M := T12_line) (pc := 115) (t := 133) (x := some (133, 0)) fl_X12_95 dX12_line_115 (hx := ry_12_33 _ _) (K := ?_)
              refine ev_iload_n (M := T12_line) (pc := 118) 1 dX12_line_118 (k := ?_)
              obtain ⟨⟨hi0, hi1⟩, H7⟩ := g_e H6
              clear H6
              refine ev_iaload (M := T12_line) (pc := 119) (k := 133) hi0 hi1 dX12_line_119 (hc := ac_133) (hlen := ln_133 _ _) (K := ?_)
              cases H7
              exact ev_ireturn (M := T12_line) (pc := 120) dX12_line_120
            · replace H6 := if_pe hc H6
              refine ev_iconst (M := T12_line) (pc := 110) dX12_line_110 (k := ?_)
              refine ev_goto (M := T12_line) (pc := 111) 120 dX12_line_111 (k := ?_)
              cases H6
              exact ev_ireturn (M := T12_line) (pc := 120) dX12_line_120
          · replace H6 := if_ne hs2 H6
            by_cases hs3 : l2 = 3
            · replace H6 := if_pe hs3 H6
              refine ev_tableIn (M := T12_line) (pc := 38) (off := 83) 121 dX12_line_38 (by omega) (by omega) (by rw [hs3]; rfl) (k := ?_)
              refine ev_iload (M := T12_line) (pc := 121) 0 dX12_line_121 (k := ?_)
              refine ev_iconst (M := T12_line) (pc := 123) dX12_line_123 (k := ?_)
              refine ev_icmpne (M := T12_line) (pc := 124) 131 dX12_line_124 (kt := fun hc => ?_) (kf := fun hc => ?_)
              · replace H6 := if_ne hc H6
                refine ev_aload_n (M := T12_line) (pc := 131) 2 dX12_line_131 (k := ?_)
                refine ev_getR (M := T12_line) (pc := 132) (t := 133) (x := some (133, 0)) fl_X12_95 dX12_line_132 (hx := ry_12_33 _ _) (K := ?_)
                refine ev_iload (M := T12_line) (pc := 135) 0 dX12_line_135 (k := ?_)
                obtain ⟨⟨hi0, hi1⟩, H7⟩ := g_e H6
                clear H6
                refine ev_iaload (M := T12_line) (pc := 137) (k := 133) hi0 hi1 dX12_line_137 (hc := ac_133) (hlen := ln_133 _ _) (K := ?_)
                refine ev_iconst (M := T12_line) (pc := 138) dX12_line_138 (k := ?_)
                refine ev_icmpne (M := T12_line) (pc := 139) 146 dX12_line_139 (kt := fun hc => ?_) (kf := fun hc => ?_)
                · replace H7 := if_ne hc H7
                  refine ev_iconst (M := T12_line) (pc := 146) dX12_line_146 (k := ?_)
                  cases H7
                  exact ev_ireturn (M := T12_line) (pc := 147) dX12_line_147
                · replace H7 := if_pe hc H7
                  refine ev_iconst (M := T12_line) (pc := 142) dX12_line_142 (k := ?_)
                  refine ev_goto (M := T12_line) (pc := 143) 147 dX12_line_143 (k := ?_)
                  cases H7
                  exact ev_ireturn (M := T12_line) (pc := 147) dX12_line_147
              · replace H6 := if_pe hc H6
                refine ev_iconst (M := T12_line) (pc := 127) dX12_line_127 (k := ?_)
                refine ev_goto (M := T12_line) (pc := 128) 147 dX12_line_128 (k := ?_)
                cases H6
                exact ev_ireturn (M := T12_line) (pc := 147) dX12_line_147
            · replace H6 := if_ne hs3 H6
              by_cases hs4 : l2 = 4
              · replace H6 := if_pe hs4 H6
                refine ev_tableIn (M := T12_line) (pc := 38) (off := 110) 148 dX12_line_38 (by omega) (by omega) (by rw [hs4]; rfl) (k := ?_)
                refine ev_aload_n (M := T12_line) (pc := 148) 2 dX12_line_148 (k := ?_)
                refine ev_getR (M := T12_line) (pc := 149) (t := 122) (x := some (122, 0)) fl_X12_65 dX12_line_149 (hx := ry_12_22 _ _) (K := ?_)
                refine ev_iload_n (M := T12_line) (pc := 152) 3 dX12_line_152 (k := ?_)
                obtain ⟨⟨hi0, hi1⟩, H7⟩ := g_e H6
                clear H6
                refine ev_iaload (M := T12_line) (pc := 153) (k := 122) hi0 hi1 dX12_line_153 (hc := ac_122) (hlen := ln_122 _ _) (K := ?_)
                cases H7
                exact ev_ireturn (M := T12_line) (pc := 154) dX12_line_154
              · replace H6 := if_ne hs4 H6
                by_cases hs5 : l2 = 5
                · replace H6 := if_pe hs5 H6
                  refine ev_tableIn (M := T12_line) (pc := 38) (off := 117) 155 dX12_line_38 (by omega) (by omega) (by rw [hs5]; rfl) (k := ?_)
                  refine ev_aload_n (M := T12_line) (pc := 155) 2 dX12_line_155 (k := ?_)
                  refine ev_getR (M := T12_line) (pc := 156) (t := 124) (x := some (124, 0)) fl_X12_71 dX12_line_156 (hx := ry_12_24 _ _) (K := ?_)
                  refine ev_iload_n (M := T12_line) (pc := 159) 3 dX12_line_159 (k := ?_)
                  obtain ⟨⟨hi0, hi1⟩, H7⟩ := g_e H6
                  clear H6
                  refine ev_zaload (M := T12_line) (pc := 160) (k := 124) hi0 hi1 dX12_line_160 (hc := ac_124) (hlen := ln_124 _ _) (K := ?_)
                  refine ev_ifeq (M := T12_line) (pc := 161) 168 dX12_line_161 (kt := fun hc => ?_) (kf := fun hc => ?_)
                  · replace H7 := if_pe hc H7
                    refine ev_iconst (M := T12_line) (pc := 168) dX12_line_168 (k := ?_)
                    cases H7
                    exact ev_ireturn (M := T12_line) (pc := 169) dX12_line_169
                  · replace H7 := if_ne hc H7
                    refine ev_iconst (M := T12_line) (pc := 164) dX12_line_164 (k := ?_)
                    refine ev_goto (M := T12_line) (pc := 165) 169 dX12_line_165 (k := ?_)
                    cases H7
                    exact ev_ireturn (M := T12_line) (pc := 169) dX12_line_169
                · replace H6 := if_ne hs5 H6
                  by_cases hs6 : l2 = 6
                  · replace H6 := if_pe hs6 H6
                    refine ev_tableIn (M := T12_line) (pc := 38) (off := 132) 170 dX12_line_38 (by omega) (by omega) (by rw [hs6]; rfl) (k := ?_)
                    refine ev_aload_n (M := T12_line) (pc := 170) 2 dX12_line_170 (k := ?_)
                    refine ev_getR (M := T12_line) (pc := 171) (t := 126) (x := some (126, 0)) fl_X12_77 dX12_line_171 (hx := ry_12_26 _ _) (K := ?_)
                    refine ev_iload_n (M := T12_line) (pc := 174) 3 dX12_line_174 (k := ?_)
                    obtain ⟨⟨hi0, hi1⟩, H7⟩ := g_e H6
                    clear H6
                    refine ev_iaload (M := T12_line) (pc := 175) (k := 126) hi0 hi1 dX12_line_175 (hc := ac_126) (hlen := ln_126 _ _) (K := ?_)
                    cases H7
                    exact ev_ireturn (M := T12_line) (pc := 176) dX12_line_176
                  · replace H6 := if_ne hs6 H6
                    by_cases hs7 : l2 = 7
                    · replace H6 := if_pe hs7 H6
                      refine ev_tableIn (M := T12_line) (pc := 38) (off := 139) 177 dX12_line_38 (by omega) (by omega) (by rw [hs7]; rfl) (k := ?_)
                      refine ev_iload_n (M := T12_line) (pc := 177) 1 dX12_line_177 (k := ?_)
                      refine ev_iconst (M := T12_line) (pc := 178) dX12_line_178 (k := ?_)
                      refine ev_icmpne (M := T12_line) (pc := 179) 186 dX12_line_179 (kt := fun hc => ?_) (kf := fun hc => ?_)
                      · replace H6 := if_ne hc H6
                        refine ev_aload_n (M := T12_line) (pc := 186) 2 dX12_line_186 (k := ?_)
                        refine ev_getR (M := T12_line) (pc := 187) (t := 140) (x := some (140, 0)) fl_X12_116 dX12_line_187 (hx := ry_12_40 _ _) (K := ?_)
                        refine ev_iload_n (M := T12_line) (pc := 190) 1 dX12_line_190 (k := ?_)
                        obtain ⟨⟨hi0, hi1⟩, H7⟩ := g_e H6
                        clear H6
                        refine ev_iaload (M := T12_line) (pc := 191) (k := 140) hi0 hi1 dX12_line_191 (hc := ac_140) (hlen := ln_140 _ _) (K := ?_)
                        cases H7
                        exact ev_ireturn (M := T12_line) (pc := 192) dX12_line_192
                      · replace H6 := if_pe hc H6
                        refine ev_iconst (M := T12_line) (pc := 182) dX12_line_182 (k := ?_)
                        refine ev_goto (M := T12_line) (pc := 183) 192 dX12_line_183 (k := ?_)
                        cases H6
                        exact ev_ireturn (M := T12_line) (pc := 192) dX12_line_192
                    · replace H6 := if_ne hs7 H6
                      refine ev_tableOut (M := T12_line) (pc := 38) 193 dX12_line_38 (by omega) (k := ?_)
                      refine ev_aload_n (M := T12_line) (pc := 193) 2 dX12_line_193 (k := ?_)
                      refine ev_getR (M := T12_line) (pc := 194) (t := 118) (x := some (118, 0)) fl_X12_53 dX12_line_194 (hx := ry_12_18 _ _) (K := ?_)
                      refine ev_iload_n (M := T12_line) (pc := 197) 3 dX12_line_197 (k := ?_)
                      obtain ⟨⟨hi0, hi1⟩, H7⟩ := g_e H6
                      clear H6
                      refine ev_iaload (M := T12_line) (pc := 198) (k := 118) hi0 hi1 dX12_line_198 (hc := ac_118) (hlen := ln_118 _ _) (K := ?_)
                      cases H7
                      exact ev_ireturn (M := T12_line) (pc := 199) dX12_line_199
    · replace H2 := if_pe hc H2
      refine ev_lv [] [] (k := ?_)
      exact E12_line_19 q2.2 _ H2
-- X12_link
abbrev T12_link : JT := (RX12, cX12_link, 4, some .int, false)
set_option maxRecDepth 100000 in
set_option maxHeartbeats 4000000 in
theorem E12_link_22 (h : JM) (res : (Int × JM)) (H : F12_link_22 h = some res) : Ev j_W1 2 0 0 T12_link 22 [] [] h (some (.inl res.1)) res.2 := by
  unfold F12_link_22 at H
  refine ev_bipush (M := T12_link) (pc := 22) dX12_link_22 (k := ?_)
  cases H
  exact ev_ireturn (M := T12_link) (pc := 24) dX12_link_24
set_option maxRecDepth 100000 in
set_option maxHeartbeats 4000000 in
theorem C12_link {l1 : Int} {l2 : Int} {h : JM} {res : (Int × JM)} (H : F12_link l1 l2 h = some res) : Cn j_W1 2 0 0 yX12_link cX12_link 4 (some .int) [.inr (.inr (some (12, 0))), .inl (l1), .inl (l2)] h (some (.inl res.1)) res.2 := by
  refine Cn.by (own := RX12) (b := false) [(0, .inr (.inr (some (12, 0)))), (1, .inl (l1)), (2, .inl (l2))] rfl (fun z => by cases z) (by decide +kernel) (K := ?_)
  unfold F12_link at H
  refine ev_iload_n (M := T12_link) (pc := 0) 1 dX12_link_0 (k := ?_)
  refine ev_i2l (M := T12_link) (pc := 1) dX12_link_1 (k := ?_)
  refine ev_lconst (M := T12_link) (pc := 2) (v := 0) dX12_link_2 (k := ?_)
  refine ev_lconst (M := T12_link) (pc := 3) (v := 1) dX12_link_3 (k := ?_)
  obtain ⟨q1, hq, H1⟩ := bd_e H
  clear H
  refine ev_callS (M := T12_link) (pc := 4) (mc := 0) (ms := 0) (st := []) (C12_in hq) md_X12_in ss_X12_in ml_X12_268 dX12_link_4 _ (by decide) (K := ?_)
  refine ev_ifeq (M := T12_link) (pc := 7) 22 dX12_link_7 (kt := fun hc => ?_) (kf := fun hc => ?_)
  · replace H1 := if_pe hc H1
    refine ev_lv [] [] (k := ?_)
    exact E12_link_22 q1.2 _ H1
  · replace H1 := if_ne hc H1
    refine ev_iload_n (M := T12_link) (pc := 10) 2 dX12_link_10 (k := ?_)
    refine ev_i2l (M := T12_link) (pc := 11) dX12_link_11 (k := ?_)
    refine ev_lconst (M := T12_link) (pc := 12) (v := 0) dX12_link_12 (k := ?_)
    refine ev_ldc2 (M := T12_link) (pc := 13) (n := 6) cl_X12_513 dX12_link_13 (hv := cw_X12_513) (k := ?_)
    obtain ⟨q2, hq, H2⟩ := bd_e H1
    clear H1
    refine ev_callS (M := T12_link) (pc := 16) (mc := 0) (ms := 0) (st := []) (C12_in hq) md_X12_in ss_X12_in ml_X12_268 dX12_link_16 _ (by decide) (K := ?_)
    refine ev_ifne (M := T12_link) (pc := 19) 25 dX12_link_19 (kt := fun hc => ?_) (kf := fun hc => ?_)
    · replace H2 := if_ne hc H2
      refine ev_iload_n (M := T12_link) (pc := 25) 1 dX12_link_25 (k := ?_)
      refine ev_istore_n (M := T12_link) (pc := 26) [(3, .inl (l1)), (0, .inr (.inr (some (12, 0)))), (1, .inl (l1)), (2, .inl (l2))] dX12_link_26 (k := ?_)
      refine ev_iload_n (M := T12_link) (pc := 27) 3 dX12_link_27 (k := ?_)
      refine ev_ifne (M := T12_link) (pc := 28) 40 dX12_link_28 (kt := fun hc => ?_) (kf := fun hc => ?_)
      · replace H2 := if_ne hc H2
        refine ev_iload_n (M := T12_link) (pc := 40) 3 dX12_link_40 (k := ?_)
        refine ev_iconst (M := T12_link) (pc := 41) dX12_link_41 (k := ?_)
        refine ev_icmpne (M := T12_link) (pc := 42) 54 dX12_link_42 (kt := fun hc => ?_) (kf := fun hc => ?_)
        · replace H2 := if_ne hc H2
          refine ev_iload_n (M := T12_link) (pc := 54) 3 dX12_link_54 (k := ?_)
          refine ev_iconst (M := T12_link) (pc := 55) dX12_link_55 (k := ?_)
          refine ev_icmpne (M := T12_link) (pc := 56) 68 dX12_link_56 (kt := fun hc => ?_) (kf := fun hc => ?_)
          · replace H2 := if_ne hc H2
            refine ev_iload_n (M := T12_link) (pc := 68) 3 dX12_link_68 (k := ?_)
            refine ev_iconst (M := T12_link) (pc := 69) dX12_link_69 (k := ?_)
            refine ev_icmpne (M := T12_link) (pc := 70) 82 dX12_link_70 (kt := fun hc => ?_) (kf := fun hc => ?_)
            · replace H2 := if_ne hc H2
              refine ev_iload_n (M := T12_link) (pc := 82) 3 dX12_link_82 (k := ?_)
              refine ev_iconst (M := T12_link) (pc := 83) dX12_link_83 (k := ?_)
              refine ev_icmpne (M := T12_link) (pc := 84) 96 dX12_link_84 (kt := fun hc => ?_) (kf := fun hc => ?_)
              · replace H2 := if_ne hc H2
                refine ev_iload_n (M := T12_link) (pc := 96) 3 dX12_link_96 (k := ?_)
                refine ev_iconst (M := T12_link) (pc := 97) dX12_link_97 (k := ?_)
                refine ev_icmpne (M := T12_link) (pc := 98) 110 dX12_link_98 (kt := fun hc => ?_) (kf := fun hc => ?_)
                · replace H2 := if_ne hc H2
                  refine ev_aload_n (M := T12_link) (pc := 110) 1 dX12_link_110 (k := ?_)
                  refine ev_getR (M := T12_link) (pc := 111) (t := 167) (x := some (167, 0)) fl_X12_194 dX12_link_111 (hx := ry_12_67 _ _) (K := ?_)
                  refine ev_iload_n (M := T12_link) (pc := 114) 0 dX12_link_114 (k := ?_)
                  obtain ⟨⟨hi0, hi1⟩, H3⟩ := g_e H2
                  clear H2
                  refine ev_iaload (M := T12_link) (pc := 115) (k := 167) hi0 hi1 dX12_link_115 (hc := ac_167) (hlen := ln_167 _ _) (K := ?_)
                  cases H3
                  exact ev_ireturn (M := T12_link) (pc := 116) dX12_link_116
                · replace H2 := if_pe hc H2
                  refine ev_aload_n (M := T12_link) (pc := 101) 1 dX12_link_101 (k := ?_)
                  refine ev_getR (M := T12_link) (pc := 102) (t := 166) (x := some (166, 0)) fl_X12_191 dX12_link_102 (hx := ry_12_66 _ _) (K := ?_)
                  refine ev_iload_n (M := T12_link) (pc := 105) 0 dX12_link_105 (k := ?_)
                  obtain ⟨⟨hi0, hi1⟩, H3⟩ := g_e H2
                  clear H2
                  refine ev_iaload (M := T12_link) (pc := 106) (k := 166) hi0 hi1 dX12_link_106 (hc := ac_166) (hlen := ln_166 _ _) (K := ?_)
                  refine ev_goto (M := T12_link) (pc := 107) 116 dX12_link_107 (k := ?_)
                  cases H3
                  exact ev_ireturn (M := T12_link) (pc := 116) dX12_link_116
              · replace H2 := if_pe hc H2
                refine ev_aload_n (M := T12_link) (pc := 87) 1 dX12_link_87 (k := ?_)
                refine ev_getR (M := T12_link) (pc := 88) (t := 165) (x := some (165, 0)) fl_X12_188 dX12_link_88 (hx := ry_12_65 _ _) (K := ?_)
                refine ev_iload_n (M := T12_link) (pc := 91) 0 dX12_link_91 (k := ?_)
                obtain ⟨⟨hi0, hi1⟩, H3⟩ := g_e H2
                clear H2
                refine ev_iaload (M := T12_link) (pc := 92) (k := 165) hi0 hi1 dX12_link_92 (hc := ac_165) (hlen := ln_165 _ _) (K := ?_)
                refine ev_goto (M := T12_link) (pc := 93) 116 dX12_link_93 (k := ?_)
                cases H3
                exact ev_ireturn (M := T12_link) (pc := 116) dX12_link_116
            · replace H2 := if_pe hc H2
              refine ev_aload_n (M := T12_link) (pc := 73) 1 dX12_link_73 (k := ?_)
              refine ev_getR (M := T12_link) (pc := 74) (t := 164) (x := some (164, 0)) fl_X12_185 dX12_link_74 (hx := ry_12_64 _ _) (K := ?_)
              refine ev_iload_n (M := T12_link) (pc := 77) 0 dX12_link_77 (k := ?_)
              obtain ⟨⟨hi0, hi1⟩, H3⟩ := g_e H2
              clear H2
              refine ev_iaload (M := T12_link) (pc := 78) (k := 164) hi0 hi1 dX12_link_78 (hc := ac_164) (hlen := ln_164 _ _) (K := ?_)
              refine ev_goto (M := T12_link) (pc := 79) 116 dX12_link_79 (k := ?_)
              cases H3
              exact ev_ireturn (M := T12_link) (pc := 116) dX12_link_116
          · replace H2 := if_pe hc H2
            refine ev_aload_n (M := T12_link) (pc := 59) 1 dX12_link_59 (k := ?_)
            refine ev_getR (M := T12_link) (pc := 60) (t := 162) (x := some (162, 0)) fl_X12_179 dX12_link_60 (hx := ry_12_62 _ _) (K := ?_)
            refine ev_iload_n (M := T12_link) (pc := 63) 0 dX12_link_63 (k := ?_)
            obtain ⟨⟨hi0, hi1⟩, H3⟩ := g_e H2
            clear H2
            refine ev_iaload (M := T12_link) (pc := 64) (k := 162) hi0 hi1 dX12_link_64 (hc := ac_162) (hlen := ln_162 _ _) (K := ?_)
            refine ev_goto (M := T12_link) (pc := 65) 116 dX12_link_65 (k := ?_)
            cases H3
            exact ev_ireturn (M := T12_link) (pc := 116) dX12_link_116
        · replace H2 := if_pe hc H2
          refine ev_aload_n (M := T12_link) (pc := 45) 1 dX12_link_45 (k := ?_)
          refine ev_getR (M := T12_link) (pc := 46) (t := 161) (x := some (161, 0)) fl_X12_176 dX12_link_46 (hx := ry_12_61 _ _) (K := ?_)
          refine ev_iload_n (M := T12_link) (pc := 49) 0 dX12_link_49 (k := ?_)
          obtain ⟨⟨hi0, hi1⟩, H3⟩ := g_e H2
          clear H2
          refine ev_iaload (M := T12_link) (pc := 50) (k := 161) hi0 hi1 dX12_link_50 (hc := ac_161) (hlen := ln_161 _ _) (K := ?_)
          refine ev_goto (M := T12_link) (pc := 51) 116 dX12_link_51 (k := ?_)
          cases H3
          exact ev_ireturn (M := T12_link) (pc := 116) dX12_link_116
      · replace H2 := if_pe hc H2
        refine ev_aload_n (M := T12_link) (pc := 31) 1 dX12_link_31 (k := ?_)
        refine ev_getR (M := T12_link) (pc := 32) (t := 160) (x := some (160, 0)) fl_X12_173 dX12_link_32 (hx := ry_12_60 _ _) (K := ?_)
        refine ev_iload_n (M := T12_link) (pc := 35) 0 dX12_link_35 (k := ?_)
        obtain ⟨⟨hi0, hi1⟩, H3⟩ := g_e H2
        clear H2
        refine ev_iaload (M := T12_link) (pc := 36) (k := 160) hi0 hi1 dX12_link_36 (hc := ac_160) (hlen := ln_160 _ _) (K := ?_)
        refine ev_goto (M := T12_link) (pc := 37) 116 dX12_link_37 (k := ?_)
        cases H3
        exact ev_ireturn (M := T12_link) (pc := 116) dX12_link_116
    · replace H2 := if_pe hc H2
      refine ev_lv [] [] (k := ?_)
      exact E12_link_22 q2.2 _ H2
