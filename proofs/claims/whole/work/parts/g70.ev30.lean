-- X12_tariff
abbrev T12_tariff : JT := (RX12, cX12_tariff, 6, some .int, false)
set_option maxRecDepth 100000 in
set_option maxHeartbeats 4000000 in
theorem E12_tariff_62 (h : JM) (res : (Int × JM)) (H : F12_tariff_62 h = some res) : Ev j_W1 2 0 0 T12_tariff 62 [] [] h (some (.inl res.1)) res.2 := by
  unfold F12_tariff_62 at H
  refine ev_bipush (M := T12_tariff) (pc := 62) dX12_tariff_62 (k := ?_)
  cases H
  exact ev_ireturn (M := T12_tariff) (pc := 64) dX12_tariff_64
set_option maxRecDepth 100000 in
set_option maxHeartbeats 4000000 in
theorem C12_tariff {l1 : Int} {l2 : Int} {l3 : Int} {l4 : Int} {l5 : Int} {h : JM} {res : (Int × JM)} (H : F12_tariff l1 l2 l3 l4 l5 h = some res) : Cn j_W1 2 0 0 yX12_tariff cX12_tariff 6 (some .int) [.inr (.inr (some (12, 0))), .inl (l1), .inl (l2), .inl (l3), .inl (l4), .inl (l5)] h (some (.inl res.1)) res.2 := by
  refine Cn.by (own := RX12) (b := false) [(0, .inr (.inr (some (12, 0)))), (1, .inl (l1)), (2, .inl (l2)), (3, .inl (l3)), (4, .inl (l4)), (5, .inl (l5))] rfl (fun z => by cases z) (by decide +kernel) (K := ?_)
  unfold F12_tariff at H
  refine ev_iload_n (M := T12_tariff) (pc := 0) 1 dX12_tariff_0 (k := ?_)
  refine ev_i2l (M := T12_tariff) (pc := 1) dX12_tariff_1 (k := ?_)
  refine ev_lconst (M := T12_tariff) (pc := 2) (v := 0) dX12_tariff_2 (k := ?_)
  refine ev_ldc2 (M := T12_tariff) (pc := 3) (n := 3) cl_X12_279 dX12_tariff_3 (hv := cw_X12_279) (k := ?_)
  obtain ⟨q1, hq, H1⟩ := bd_e H
  clear H
  refine ev_callS (M := T12_tariff) (pc := 6) (mc := 0) (ms := 0) (st := []) (C12_in hq) md_X12_in ss_X12_in ml_X12_268 dX12_tariff_6 _ (by decide) (K := ?_)
  refine ev_ifeq (M := T12_tariff) (pc := 9) 62 dX12_tariff_9 (kt := fun hc => ?_) (kf := fun hc => ?_)
  · replace H1 := if_pe hc H1
    refine ev_lv [] [] (k := ?_)
    exact E12_tariff_62 q1.2 _ H1
  · replace H1 := if_ne hc H1
    refine ev_iload_n (M := T12_tariff) (pc := 12) 2 dX12_tariff_12 (k := ?_)
    refine ev_i2l (M := T12_tariff) (pc := 13) dX12_tariff_13 (k := ?_)
    refine ev_lconst (M := T12_tariff) (pc := 14) (v := 0) dX12_tariff_14 (k := ?_)
    refine ev_ldc2 (M := T12_tariff) (pc := 15) (n := 10000) cl_X12_480 dX12_tariff_15 (hv := cw_X12_480) (k := ?_)
    obtain ⟨q2, hq, H2⟩ := bd_e H1
    clear H1
    refine ev_callS (M := T12_tariff) (pc := 18) (mc := 0) (ms := 0) (st := []) (C12_in hq) md_X12_in ss_X12_in ml_X12_268 dX12_tariff_18 _ (by decide) (K := ?_)
    refine ev_ifeq (M := T12_tariff) (pc := 21) 62 dX12_tariff_21 (kt := fun hc => ?_) (kf := fun hc => ?_)
    · replace H2 := if_pe hc H2
      refine ev_lv [] [] (k := ?_)
      exact E12_tariff_62 q2.2 _ H2
    · replace H2 := if_ne hc H2
      refine ev_iload_n (M := T12_tariff) (pc := 24) 3 dX12_tariff_24 (k := ?_)
      refine ev_i2l (M := T12_tariff) (pc := 25) dX12_tariff_25 (k := ?_)
      refine ev_lconst (M := T12_tariff) (pc := 26) (v := 1) dX12_tariff_26 (k := ?_)
      refine ev_ldc2 (M := T12_tariff) (pc := 27) (n := 1000) cl_X12_482 dX12_tariff_27 (hv := cw_X12_482) (k := ?_)
      obtain ⟨q3, hq, H3⟩ := bd_e H2
      clear H2
      refine ev_callS (M := T12_tariff) (pc := 30) (mc := 0) (ms := 0) (st := []) (C12_in hq) md_X12_in ss_X12_in ml_X12_268 dX12_tariff_30 _ (by decide) (K := ?_)
      refine ev_ifeq (M := T12_tariff) (pc := 33) 62 dX12_tariff_33 (kt := fun hc => ?_) (kf := fun hc => ?_)
      · replace H3 := if_pe hc H3
        refine ev_lv [] [] (k := ?_)
        exact E12_tariff_62 q3.2 _ H3
      · replace H3 := if_ne hc H3
        refine ev_iload (M := T12_tariff) (pc := 36) 4 dX12_tariff_36 (k := ?_)
        refine ev_i2l (M := T12_tariff) (pc := 38) dX12_tariff_38 (k := ?_)
        refine ev_lconst (M := T12_tariff) (pc := 39) (v := 0) dX12_tariff_39 (k := ?_)
        refine ev_ldc2 (M := T12_tariff) (pc := 40) (n := 200) cl_X12_484 dX12_tariff_40 (hv := cw_X12_484) (k := ?_)
        obtain ⟨q4, hq, H4⟩ := bd_e H3
        clear H3
        refine ev_callS (M := T12_tariff) (pc := 43) (mc := 0) (ms := 0) (st := []) (C12_in hq) md_X12_in ss_X12_in ml_X12_268 dX12_tariff_43 _ (by decide) (K := ?_)
        refine ev_ifeq (M := T12_tariff) (pc := 46) 62 dX12_tariff_46 (kt := fun hc => ?_) (kf := fun hc => ?_)
        · replace H4 := if_pe hc H4
          refine ev_lv [] [] (k := ?_)
          exact E12_tariff_62 q4.2 _ H4
        · replace H4 := if_ne hc H4
          refine ev_iload (M := T12_tariff) (pc := 49) 5 dX12_tariff_49 (k := ?_)
          refine ev_i2l (M := T12_tariff) (pc := 51) dX12_tariff_51 (k := ?_)
          refine ev_lconst (M := T12_tariff) (pc := 52) (v := 0) dX12_tariff_52 (k := ?_)
          refine ev_ldc2 (M := T12_tariff) (pc := 53) (n := 200) cl_X12_484 dX12_tariff_53 (hv := cw_X12_484) (k := ?_)
          obtain ⟨q5, hq, H5⟩ := bd_e H4
          clear H4
          refine ev_callS (M := T12_tariff) (pc := 56) (mc := 0) (ms := 0) (st := []) (C12_in hq) md_X12_in ss_X12_in ml_X12_268 dX12_tariff_56 _ (by decide) (K := ?_)
          refine ev_ifne (M := T12_tariff) (pc := 59) 65 dX12_tariff_59 (kt := fun hc => ?_) (kf := fun hc => ?_)
          · replace H5 := if_ne hc H5
            refine ev_aload_n (M := T12_tariff) (pc := 65) 0 dX12_tariff_65 (k := ?_)
            refine ev_getR (M := T12_tariff) (pc := 66) (t := 186) (x := some (186, 0)) fl_X12_240 dX12_tariff_66 (hx := ry_12_86 _ _) (K := ?_)
            refine ev_iload_n (M := T12_tariff) (pc := 69) 1 dX12_tariff_69 (k := ?_)
            refine ev_iload_n (M := T12_tariff) (pc := 70) 2 dX12_tariff_70 (k := ?_)
            obtain ⟨⟨hi0, hi1⟩, H6⟩ := g_e H5
            clear H5
            obtain ⟨h6, eh6, H7⟩ := lt_e H6
            clear H6
            refine ev_iastore (M := T12_tariff) (pc := 71) (k := 186) j_ok1 hi0 hi1 eh6 dX12_tariff_71 (hc := ac_186) (hlen := ln_186 _ _) (K := ?_)
            refine ev_aload_n (M := T12_tariff) (pc := 72) 0 dX12_tariff_72 (k := ?_)
            refine ev_getR (M := T12_tariff) (pc := 73) (t := 187) (x := some (187, 0)) fl_X12_243 dX12_tariff_73 (hx := ry_12_87 _ _) (K := ?_)
            refine ev_iload_n (M := T12_tariff) (pc := 76) 1 dX12_tariff_76 (k := ?_)
            refine ev_iload_n (M := T12_tariff) (pc := 77) 3 dX12_tariff_77 (k := ?_)
            obtain ⟨⟨hi0, hi1⟩, H8⟩ := g_e H7
            clear H7
            obtain ⟨h7, eh7, H9⟩ := lt_e H8
            clear H8
            refine ev_iastore (M := T12_tariff) (pc := 78) (k := 187) j_ok1 hi0 hi1 eh7 dX12_tariff_78 (hc := ac_187) (hlen := ln_187 _ _) (K := ?_)
            refine ev_aload_n (M := T12_tariff) (pc := 79) 0 dX12_tariff_79 (k := ?_)
            refine ev_getR (M := T12_tariff) (pc := 80) (t := 188) (x := some (188, 0)) fl_X12_246 dX12_tariff_80 (hx := ry_12_88 _ _) (K := ?_)
            refine ev_iload_n (M := T12_tariff) (pc := 83) 1 dX12_tariff_83 (k := ?_)
            refine ev_iload (M := T12_tariff) (pc := 84) 4 dX12_tariff_84 (k := ?_)
            obtain ⟨⟨hi0, hi1⟩, H10⟩ := g_e H9
            clear H9
            obtain ⟨h8, eh8, H11⟩ := lt_e H10
            clear H10
            refine ev_iastore (M := T12_tariff) (pc := 86) (k := 188) j_ok1 hi0 hi1 eh8 dX12_tariff_86 (hc := ac_188) (hlen := ln_188 _ _) (K := ?_)
            refine ev_aload_n (M := T12_tariff) (pc := 87) 0 dX12_tariff_87 (k := ?_)
            refine ev_getR (M := T12_tariff) (pc := 88) (t := 189) (x := some (189, 0)) fl_X12_249 dX12_tariff_88 (hx := ry_12_89 _ _) (K := ?_)
            refine ev_iload_n (M := T12_tariff) (pc := 91) 1 dX12_tariff_91 (k := ?_)
            refine ev_iload (M := T12_tariff) (pc := 92) 5 dX12_tariff_92 (k := ?_)
            obtain ⟨⟨hi0, hi1⟩, H12⟩ := g_e H11
            clear H11
            obtain ⟨h9, eh9, H13⟩ := lt_e H12
            clear H12
            refine ev_iastore (M := T12_tariff) (pc := 94) (k := 189) j_ok1 hi0 hi1 eh9 dX12_tariff_94 (hc := ac_189) (hlen := ln_189 _ _) (K := ?_)
            refine ev_iconst (M := T12_tariff) (pc := 95) dX12_tariff_95 (k := ?_)
            cases H13
            exact ev_ireturn (M := T12_tariff) (pc := 96) dX12_tariff_96
          · replace H5 := if_pe hc H5
            refine ev_lv [] [] (k := ?_)
            exact E12_tariff_62 q5.2 _ H5
-- X12_times
abbrev T12_times : JT := (RX12, cX12_times, 3, none, false)
set_option maxRecDepth 100000 in
set_option maxHeartbeats 4000000 in
theorem C12_times {l1 : Int} {h : JM} {res : JM} (H : F12_times l1 h = some res) : Cn j_W1 92 0 0 yX12_times cX12_times 3 none [.inr (.inr (some (12, 0))), .inl (l1)] h none res := by
  refine Cn.by (own := RX12) (b := false) [(0, .inr (.inr (some (12, 0)))), (1, .inl (l1))] rfl (fun z => by cases z) (by decide +kernel) (K := ?_)
  unfold F12_times at H
  refine ev_aload_n (M := T12_times) (pc := 0) 0 dX12_times_0 (k := ?_)
  refine ev_getI (M := T12_times) (pc := 1) (x := h.1 12 0 2) fl_X12_285 dX12_times_1 (K := ?_)
  refine ev_aload_n (M := T12_times) (pc := 4) 0 dX12_times_4 (k := ?_)
  refine ev_getR (M := T12_times) (pc := 5) (t := 145) (x := some (145, 0)) fl_X12_131 dX12_times_5 (hx := ry_12_45 _ _) (K := ?_)
  refine ev_iload_n (M := T12_times) (pc := 8) 1 dX12_times_8 (k := ?_)
  obtain ⟨⟨hi0, hi1⟩, H1⟩ := g_e H
  clear H
  refine ev_iaload (M := T12_times) (pc := 9) (k := 145) hi0 hi1 dX12_times_9 (hc := ac_145) (hlen := ln_145 _ _) (K := ?_)
  refine ev_isub (M := T12_times) (pc := 10) dX12_times_10 (k := ?_)
  obtain ⟨x1, ex1, H2⟩ := lt_e H1
  clear H1
  refine ev_topI ex1 ?_
  refine ev_istore_n (M := T12_times) (pc := 11) [(2, .inl (x1)), (0, .inr (.inr (some (12, 0)))), (1, .inl (l1))] dX12_times_11 (k := ?_)
  refine ev_aload_n (M := T12_times) (pc := 12) 1 dX12_times_12 (k := ?_)
  refine ev_getR (M := T12_times) (pc := 13) (t := 133) (x := some (133, 0)) fl_X12_95 dX12_times_13 (hx := ry_12_33 _ _) (K := ?_)
  refine ev_iload_n (M := T12_times) (pc := 16) 2 dX12_times_16 (k := ?_)
  obtain ⟨⟨hi0, hi1⟩, H3⟩ := g_e H2
  clear H2
  refine ev_iaload (M := T12_times) (pc := 17) (k := 133) hi0 hi1 dX12_times_17 (hc := ac_133) (hlen := ln_133 _ _) (K := ?_)
  by_cases hs0 : h.1 133 0 l1 = 0
  · replace H3 := if_pe hs0 H3
    refine ev_tableIn (M := T12_times) (pc := 18) (off := 34) 52 dX12_times_18 (by omega) (by omega) (by rw [hs0]; rfl) (k := ?_)
    refine ev_iload_n (M := T12_times) (pc := 52) 0 dX12_times_52 (k := ?_)
    refine ev_sipush (M := T12_times) (pc := 53) dX12_times_53 (k := ?_)
    refine ev_icmpne (M := T12_times) (pc := 56) 172 dX12_times_56 (kt := fun hc => ?_) (kf := fun hc => ?_)
    · replace H3 := if_ne hc H3
      cases H3
      exact ev_return (M := T12_times) (pc := 172) dX12_times_172
    · replace H3 := if_pe hc H3
      refine ev_aload_n (M := T12_times) (pc := 59) 1 dX12_times_59 (k := ?_)
      refine ev_iload_n (M := T12_times) (pc := 60) 2 dX12_times_60 (k := ?_)
      refine ev_iconst (M := T12_times) (pc := 61) dX12_times_61 (k := ?_)
      refine ev_iconst (M := T12_times) (pc := 62) dX12_times_62 (k := ?_)
      obtain ⟨h2, hq, H4⟩ := bd_e H3
      clear H3
      refine ev_callV (M := T12_times) (pc := 63) (mc := 0) (ms := 0) (st := []) (C12_over hq) md_X12_over im_X12_over se_X12_over ml_X12_323 dX12_times_63 _ (by decide) (K := ?_)
      refine ev_goto (M := T12_times) (pc := 66) 172 dX12_times_66 (k := ?_)
      cases H4
      exact ev_return (M := T12_times) (pc := 172) dX12_times_172
  · replace H3 := if_ne hs0 H3
    by_cases hs1 : h.1 133 0 l1 = 1
    · replace H3 := if_pe hs1 H3
      refine ev_tableIn (M := T12_times) (pc := 18) (off := 51) 69 dX12_times_18 (by omega) (by omega) (by rw [hs1]; rfl) (k := ?_)
      refine ev_iload_n (M := T12_times) (pc := 69) 0 dX12_times_69 (k := ?_)
      refine ev_sipush (M := T12_times) (pc := 70) dX12_times_70 (k := ?_)
      refine ev_icmpne (M := T12_times) (pc := 73) 172 dX12_times_73 (kt := fun hc => ?_) (kf := fun hc => ?_)
      · replace H3 := if_ne hc H3
        cases H3
        exact ev_return (M := T12_times) (pc := 172) dX12_times_172
      · replace H3 := if_pe hc H3
        refine ev_aload_n (M := T12_times) (pc := 76) 1 dX12_times_76 (k := ?_)
        refine ev_iload_n (M := T12_times) (pc := 77) 2 dX12_times_77 (k := ?_)
        refine ev_bipush (M := T12_times) (pc := 78) dX12_times_78 (k := ?_)
        refine ev_iconst (M := T12_times) (pc := 80) dX12_times_80 (k := ?_)
        obtain ⟨h3, hq, H4⟩ := bd_e H3
        clear H3
        refine ev_callV (M := T12_times) (pc := 81) (mc := 0) (ms := 0) (st := []) (C12_over hq) md_X12_over im_X12_over se_X12_over ml_X12_323 dX12_times_81 _ (by decide) (K := ?_)
        refine ev_goto (M := T12_times) (pc := 84) 172 dX12_times_84 (k := ?_)
        cases H4
        exact ev_return (M := T12_times) (pc := 172) dX12_times_172
    · replace H3 := if_ne hs1 H3
      by_cases hs2 : h.1 133 0 l1 = 2
      · replace H3 := if_pe hs2 H3
        refine ev_tableIn (M := T12_times) (pc := 18) (off := 69) 87 dX12_times_18 (by omega) (by omega) (by rw [hs2]; rfl) (k := ?_)
        refine ev_aload_n (M := T12_times) (pc := 87) 1 dX12_times_87 (k := ?_)
        refine ev_getR (M := T12_times) (pc := 88) (t := 137) (x := some (137, 0)) fl_X12_107 dX12_times_88 (hx := ry_12_37 _ _) (K := ?_)
        refine ev_iload_n (M := T12_times) (pc := 91) 2 dX12_times_91 (k := ?_)
        obtain ⟨⟨hi0, hi1⟩, H4⟩ := g_e H3
        clear H3
        refine ev_iaload (M := T12_times) (pc := 92) (k := 137) hi0 hi1 dX12_times_92 (hc := ac_137) (hlen := ln_137 _ _) (K := ?_)
        obtain ⟨q4, hq, H5⟩ := bd_e H4
        clear H4
        refine ev_callS (M := T12_times) (pc := 93) (mc := 0) (ms := 0) (st := []) (C12_isLineSide hq) md_X12_isLineSide ss_X12_isLineSide ml_X12_349 dX12_times_93 _ (by decide) (K := ?_)
        refine ev_ifeq (M := T12_times) (pc := 96) 172 dX12_times_96 (kt := fun hc => ?_) (kf := fun hc => ?_)
        · replace H5 := if_pe hc H5
          cases H5
          exact ev_return (M := T12_times) (pc := 172) dX12_times_172
        · replace H5 := if_ne hc H5
          refine ev_aload_n (M := T12_times) (pc := 99) 1 dX12_times_99 (k := ?_)
          refine ev_iload_n (M := T12_times) (pc := 100) 2 dX12_times_100 (k := ?_)
          refine ev_iload_n (M := T12_times) (pc := 101) 0 dX12_times_101 (k := ?_)
          obtain ⟨h5, hq, H6⟩ := bd_e H5
          clear H5
          refine ev_callV (M := T12_times) (pc := 102) (mc := 0) (ms := 0) (st := []) (C12_ringsLong hq) md_X12_ringsLong im_X12_ringsLong se_X12_ringsLong ml_X12_399 dX12_times_102 _ (by decide) (K := ?_)
          refine ev_goto (M := T12_times) (pc := 105) 172 dX12_times_105 (k := ?_)
          cases H6
          exact ev_return (M := T12_times) (pc := 172) dX12_times_172
      · replace H3 := if_ne hs2 H3
        by_cases hs3 : h.1 133 0 l1 = 4
        · replace H3 := if_pe hs3 H3
          refine ev_tableIn (M := T12_times) (pc := 18) (off := 90) 108 dX12_times_18 (by omega) (by omega) (by rw [hs3]; rfl) (k := ?_)
          refine ev_iload_n (M := T12_times) (pc := 108) 0 dX12_times_108 (k := ?_)
          refine ev_sipush (M := T12_times) (pc := 109) dX12_times_109 (k := ?_)
          refine ev_icmpne (M := T12_times) (pc := 112) 172 dX12_times_112 (kt := fun hc => ?_) (kf := fun hc => ?_)
          · replace H3 := if_ne hc H3
            cases H3
            exact ev_return (M := T12_times) (pc := 172) dX12_times_172
          · replace H3 := if_pe hc H3
            refine ev_aload_n (M := T12_times) (pc := 115) 1 dX12_times_115 (k := ?_)
            refine ev_iload_n (M := T12_times) (pc := 116) 2 dX12_times_116 (k := ?_)
            refine ev_iconst (M := T12_times) (pc := 117) dX12_times_117 (k := ?_)
            refine ev_iconst (M := T12_times) (pc := 118) dX12_times_118 (k := ?_)
            obtain ⟨h6, hq, H4⟩ := bd_e H3
            clear H3
            refine ev_callV (M := T12_times) (pc := 119) (mc := 0) (ms := 0) (st := []) (C12_over hq) md_X12_over im_X12_over se_X12_over ml_X12_323 dX12_times_119 _ (by decide) (K := ?_)
            refine ev_goto (M := T12_times) (pc := 122) 172 dX12_times_122 (k := ?_)
            cases H4
            exact ev_return (M := T12_times) (pc := 172) dX12_times_172
        · replace H3 := if_ne hs3 H3
          rcases (show (h.1 133 0 l1 < 0 ∨ 4 < h.1 133 0 l1) ∨ (h.1 133 0 l1 = 3) by omega) with hz | hz
          · refine ev_tableOut (M := T12_times) (pc := 18) 125 dX12_times_18 hz (k := ?_)
            refine ev_aload_n (M := T12_times) (pc := 125) 1 dX12_times_125 (k := ?_)
            refine ev_getR (M := T12_times) (pc := 126) (t := 136) (x := some (136, 0)) fl_X12_104 dX12_times_126 (hx := ry_12_36 _ _) (K := ?_)
            refine ev_iload_n (M := T12_times) (pc := 129) 2 dX12_times_129 (k := ?_)
            obtain ⟨⟨hi0, hi1⟩, H4⟩ := g_e H3
            clear H3
            refine ev_iaload (M := T12_times) (pc := 130) (k := 136) hi0 hi1 dX12_times_130 (hc := ac_136) (hlen := ln_136 _ _) (K := ?_)
            obtain ⟨q7, hq, H5⟩ := bd_e H4
            clear H4
            refine ev_callS (M := T12_times) (pc := 131) (mc := 0) (ms := 0) (st := []) (C12_isLineSide hq) md_X12_isLineSide ss_X12_isLineSide ml_X12_349 dX12_times_131 _ (by decide) (K := ?_)
            refine ev_ifeq (M := T12_times) (pc := 134) 172 dX12_times_134 (kt := fun hc => ?_) (kf := fun hc => ?_)
            · replace H5 := if_pe hc H5
              cases H5
              exact ev_return (M := T12_times) (pc := 172) dX12_times_172
            · replace H5 := if_ne hc H5
              refine ev_iload_n (M := T12_times) (pc := 137) 0 dX12_times_137 (k := ?_)
              refine ev_ifle (M := T12_times) (pc := 138) 172 dX12_times_138 (kt := fun hc => ?_) (kf := fun hc => ?_)
              · replace H5 := if_pe hc H5
                cases H5
                exact ev_return (M := T12_times) (pc := 172) dX12_times_172
              · replace H5 := if_ne hc H5
                refine ev_iload_n (M := T12_times) (pc := 141) 0 dX12_times_141 (k := ?_)
                refine ev_aload_n (M := T12_times) (pc := 142) 1 dX12_times_142 (k := ?_)
                refine ev_getR (M := T12_times) (pc := 143) (t := 187) (x := some (187, 0)) fl_X12_243 dX12_times_143 (hx := ry_12_87 _ _) (K := ?_)
                refine ev_aload_n (M := T12_times) (pc := 146) 1 dX12_times_146 (k := ?_)
                refine ev_getR (M := T12_times) (pc := 147) (t := 143) (x := some (143, 0)) fl_X12_125 dX12_times_147 (hx := ry_12_43 _ _) (K := ?_)
                refine ev_iload_n (M := T12_times) (pc := 150) 2 dX12_times_150 (k := ?_)
                obtain ⟨⟨hi0, hi1⟩, H6⟩ := g_e H5
                clear H5
                refine ev_iaload (M := T12_times) (pc := 151) (k := 143) hi0 hi1 dX12_times_151 (hc := ac_143) (hlen := ln_143 _ _) (K := ?_)
                obtain ⟨⟨hi0, hi1⟩, H7⟩ := g_e H6
                clear H6
                refine ev_iaload (M := T12_times) (pc := 152) (k := 187) hi0 hi1 dX12_times_152 (hc := ac_187) (hlen := ln_187 _ _) (K := ?_)
                obtain ⟨hne, H8⟩ := g_e H7
                clear H7
                refine ev_irem (M := T12_times) (pc := 153) dX12_times_153 hne (k := ?_)
                refine ev_ifne (M := T12_times) (pc := 154) 172 dX12_times_154 (kt := fun hc => ?_) (kf := fun hc => ?_)
                · replace H8 := if_ne hc H8
                  cases H8
                  exact ev_return (M := T12_times) (pc := 172) dX12_times_172
                · replace H8 := if_pe hc H8
                  refine ev_aload_n (M := T12_times) (pc := 157) 1 dX12_times_157 (k := ?_)
                  refine ev_iload_n (M := T12_times) (pc := 158) 2 dX12_times_158 (k := ?_)
                  refine ev_aload_n (M := T12_times) (pc := 159) 1 dX12_times_159 (k := ?_)
                  refine ev_aload_n (M := T12_times) (pc := 160) 1 dX12_times_160 (k := ?_)
                  refine ev_getR (M := T12_times) (pc := 161) (t := 143) (x := some (143, 0)) fl_X12_125 dX12_times_161 (hx := ry_12_43 _ _) (K := ?_)
                  refine ev_iload_n (M := T12_times) (pc := 164) 2 dX12_times_164 (k := ?_)
                  obtain ⟨⟨hi0, hi1⟩, H9⟩ := g_e H8
                  clear H8
                  refine ev_iaload (M := T12_times) (pc := 165) (k := 143) hi0 hi1 dX12_times_165 (hc := ac_143) (hlen := ln_143 _ _) (K := ?_)
                  obtain ⟨q8, hq, H10⟩ := bd_e H9
                  clear H9
                  refine ev_callV (M := T12_times) (pc := 166) (mc := 0) (ms := 0) (st := [.inl (l1), .inr (.inr (some (12, 0)))]) (C12_price hq) md_X12_price im_X12_price se_X12_price ml_X12_382 dX12_times_166 _ (by decide) (K := ?_)
                  obtain ⟨h9, hq, H11⟩ := bd_e H10
                  clear H10
                  refine ev_callV (M := T12_times) (pc := 169) (mc := 0) (ms := 0) (st := []) (C12_charges hq) md_X12_charges im_X12_charges se_X12_charges ml_X12_385 dX12_times_169 _ (by decide) (K := ?_)
                  cases H11
                  exact ev_return (M := T12_times) (pc := 172) dX12_times_172
          · refine ev_tableIn (M := T12_times) (pc := 18) (off := 107) 125 dX12_times_18 (by omega) (by omega) (by rw [hz]; rfl) (k := ?_)
            refine ev_aload_n (M := T12_times) (pc := 125) 1 dX12_times_125 (k := ?_)
            refine ev_getR (M := T12_times) (pc := 126) (t := 136) (x := some (136, 0)) fl_X12_104 dX12_times_126 (hx := ry_12_36 _ _) (K := ?_)
            refine ev_iload_n (M := T12_times) (pc := 129) 2 dX12_times_129 (k := ?_)
            obtain ⟨⟨hi0, hi1⟩, H4⟩ := g_e H3
            clear H3
            refine ev_iaload (M := T12_times) (pc := 130) (k := 136) hi0 hi1 dX12_times_130 (hc := ac_136) (hlen := ln_136 _ _) (K := ?_)
            obtain ⟨q7, hq, H5⟩ := bd_e H4
            clear H4
            refine ev_callS (M := T12_times) (pc := 131) (mc := 0) (ms := 0) (st := []) (C12_isLineSide hq) md_X12_isLineSide ss_X12_isLineSide ml_X12_349 dX12_times_131 _ (by decide) (K := ?_)
            refine ev_ifeq (M := T12_times) (pc := 134) 172 dX12_times_134 (kt := fun hc => ?_) (kf := fun hc => ?_)
            · replace H5 := if_pe hc H5
              cases H5
              exact ev_return (M := T12_times) (pc := 172) dX12_times_172
            · replace H5 := if_ne hc H5
              refine ev_iload_n (M := T12_times) (pc := 137) 0 dX12_times_137 (k := ?_)
              refine ev_ifle (M := T12_times) (pc := 138) 172 dX12_times_138 (kt := fun hc => ?_) (kf := fun hc => ?_)
              · replace H5 := if_pe hc H5
                cases H5
                exact ev_return (M := T12_times) (pc := 172) dX12_times_172
              · replace H5 := if_ne hc H5
                refine ev_iload_n (M := T12_times) (pc := 141) 0 dX12_times_141 (k := ?_)
                refine ev_aload_n (M := T12_times) (pc := 142) 1 dX12_times_142 (k := ?_)
                refine ev_getR (M := T12_times) (pc := 143) (t := 187) (x := some (187, 0)) fl_X12_243 dX12_times_143 (hx := ry_12_87 _ _) (K := ?_)
                refine ev_aload_n (M := T12_times) (pc := 146) 1 dX12_times_146 (k := ?_)
                refine ev_getR (M := T12_times) (pc := 147) (t := 143) (x := some (143, 0)) fl_X12_125 dX12_times_147 (hx := ry_12_43 _ _) (K := ?_)
                refine ev_iload_n (M := T12_times) (pc := 150) 2 dX12_times_150 (k := ?_)
                obtain ⟨⟨hi0, hi1⟩, H6⟩ := g_e H5
                clear H5
                refine ev_iaload (M := T12_times) (pc := 151) (k := 143) hi0 hi1 dX12_times_151 (hc := ac_143) (hlen := ln_143 _ _) (K := ?_)
                obtain ⟨⟨hi0, hi1⟩, H7⟩ := g_e H6
                clear H6
                refine ev_iaload (M := T12_times) (pc := 152) (k := 187) hi0 hi1 dX12_times_152 (hc := ac_187) (hlen := ln_187 _ _) (K := ?_)
                obtain ⟨hne, H8⟩ := g_e H7
                clear H7
                refine ev_irem (M := T12_times) (pc := 153) dX12_times_153 hne (k := ?_)
                refine ev_ifne (M := T12_times) (pc := 154) 172 dX12_times_154 (kt := fun hc => ?_) (kf := fun hc => ?_)
                · replace H8 := if_ne hc H8
                  cases H8
                  exact ev_return (M := T12_times) (pc := 172) dX12_times_172
                · replace H8 := if_pe hc H8
                  refine ev_aload_n (M := T12_times) (pc := 157) 1 dX12_times_157 (k := ?_)
                  refine ev_iload_n (M := T12_times) (pc := 158) 2 dX12_times_158 (k := ?_)
                  refine ev_aload_n (M := T12_times) (pc := 159) 1 dX12_times_159 (k := ?_)
                  refine ev_aload_n (M := T12_times) (pc := 160) 1 dX12_times_160 (k := ?_)
                  refine ev_getR (M := T12_times) (pc := 161) (t := 143) (x := some (143, 0)) fl_X12_125 dX12_times_161 (hx := ry_12_43 _ _) (K := ?_)
                  refine ev_iload_n (M := T12_times) (pc := 164) 2 dX12_times_164 (k := ?_)
                  obtain ⟨⟨hi0, hi1⟩, H9⟩ := g_e H8
                  clear H8
                  refine ev_iaload (M := T12_times) (pc := 165) (k := 143) hi0 hi1 dX12_times_165 (hc := ac_143) (hlen := ln_143 _ _) (K := ?_)
                  obtain ⟨q8, hq, H10⟩ := bd_e H9
                  clear H9
                  refine ev_callV (M := T12_times) (pc := 166) (mc := 0) (ms := 0) (st := [.inl (l1), .inr (.inr (some (12, 0)))]) (C12_price hq) md_X12_price im_X12_price se_X12_price ml_X12_382 dX12_times_166 _ (by decide) (K := ?_)
                  obtain ⟨h9, hq, H11⟩ := bd_e H10
                  clear H10
                  refine ev_callV (M := T12_times) (pc := 169) (mc := 0) (ms := 0) (st := []) (C12_charges hq) md_X12_charges im_X12_charges se_X12_charges ml_X12_385 dX12_times_169 _ (by decide) (K := ?_)
                  cases H11
                  exact ev_return (M := T12_times) (pc := 172) dX12_times_172
-- X12_timesOfAll
abbrev T12_timesOfAll : JT := (RX12, cX12_timesOfAll, 5, none, false)
set_option maxRecDepth 100000 in
set_option maxHeartbeats 4000000 in
theorem E12_timesOfAll_82 (k4 : Int → Int → JM → Option JM) (hk4 : ∀ (l1 : Int) (l2 : Int) (h : JM) (res : JM), k4 l1 l2 h = some res → Ev j_W1 93 0 0 T12_timesOfAll 4 [(0, .inr (.inr (some (12, 0)))), (1, .inl (l1)), (2, .inl (l2))] [] h none res) (l1 : Int) (l3 : Int) (s0 : Int) (h : JM) (res : JM) (H : F12_timesOfAll_82 k4 l1 l3 s0 h = some res) : Ev j_W1 93 0 0 T12_timesOfAll 82 [(0, .inr (.inr (some (12, 0)))), (1, .inl (l1)), (3, .inl (l3))] [.inl (s0)] h none res := by
  unfold F12_timesOfAll_82 at H
  refine ev_istore_n (M := T12_timesOfAll) (pc := 82) [(2, .inl (s0)), (0, .inr (.inr (some (12, 0)))), (1, .inl (l1)), (3, .inl (l3))] dX12_timesOfAll_82 (k := ?_)
  refine ev_iload_n (M := T12_timesOfAll) (pc := 83) 0 dX12_timesOfAll_83 (k := ?_)
  refine ev_ifeq (M := T12_timesOfAll) (pc := 84) 99 dX12_timesOfAll_84 (kt := fun hc => ?_) (kf := fun hc => ?_)
  · replace H := if_pe hc H
    refine ev_goto (M := T12_timesOfAll) (pc := 99) 4 dX12_timesOfAll_99 (k := ?_)
    refine ev_lv [1, 2, 0] [(0, .inr (.inr (some (12, 0)))), (1, .inl (l1)), (2, .inl (s0))] (k := ?_)
    exact hk4 l1 s0 h _ H
  · replace H := if_ne hc H
    refine ev_aload_n (M := T12_timesOfAll) (pc := 87) 1 dX12_timesOfAll_87 (k := ?_)
    refine ev_getR (M := T12_timesOfAll) (pc := 88) (t := 134) (x := some (134, 0)) fl_X12_98 dX12_timesOfAll_88 (hx := ry_12_34 _ _) (K := ?_)
    refine ev_iload_n (M := T12_timesOfAll) (pc := 91) 3 dX12_timesOfAll_91 (k := ?_)
    obtain ⟨⟨hi0, hi1⟩, H1⟩ := g_e H
    clear H
    refine ev_iaload (M := T12_timesOfAll) (pc := 92) (k := 134) hi0 hi1 dX12_timesOfAll_92 (hc := ac_134) (hlen := ln_134 _ _) (K := ?_)
    obtain ⟨x1, ex1, H2⟩ := lt_e H1
    clear H1
    refine ev_topI ex1 ?_
    refine ev_istore_n (M := T12_timesOfAll) (pc := 93) [(1, .inl (x1)), (2, .inl (s0)), (0, .inr (.inr (some (12, 0)))), (3, .inl (l3))] dX12_timesOfAll_93 (k := ?_)
    refine ev_aload_n (M := T12_timesOfAll) (pc := 94) 2 dX12_timesOfAll_94 (k := ?_)
    refine ev_iload_n (M := T12_timesOfAll) (pc := 95) 3 dX12_timesOfAll_95 (k := ?_)
    obtain ⟨h2, hq, H3⟩ := bd_e H2
    clear H2
    refine ev_callV (M := T12_timesOfAll) (pc := 96) (mc := 0) (ms := 0) (st := []) (C12_times hq) md_X12_times im_X12_times se_X12_times ml_X12_402 dX12_timesOfAll_96 _ (by decide) (K := ?_)
    refine ev_goto (M := T12_timesOfAll) (pc := 99) 4 dX12_timesOfAll_99 (k := ?_)
    refine ev_lv [2, 0, 1] [(0, .inr (.inr (some (12, 0)))), (1, .inl (x1)), (2, .inl (s0))] (k := ?_)
    exact hk4 x1 s0 h2 _ H3
set_option maxRecDepth 100000 in
set_option maxHeartbeats 4000000 in
theorem E12_timesOfAll_66 (k4 : Int → Int → JM → Option JM) (hk4 : ∀ (l1 : Int) (l2 : Int) (h : JM) (res : JM), k4 l1 l2 h = some res → Ev j_W1 93 0 0 T12_timesOfAll 4 [(0, .inr (.inr (some (12, 0)))), (1, .inl (l1)), (2, .inl (l2))] [] h none res) (k13 : Int → Int → Int → JM → Option JM) (hk13 : ∀ (l1 : Int) (l3 : Int) (l4 : Int) (h : JM) (res : JM), k13 l1 l3 l4 h = some res → Ev j_W1 93 0 0 T12_timesOfAll 13 [(0, .inr (.inr (some (12, 0)))), (1, .inl (l1)), (3, .inl (l3)), (4, .inl (l4))] [] h none res) (l1 : Int) (l3 : Int) (l4 : Int) (h : JM) (res : JM) (H : F12_timesOfAll_66 k4 k13 l1 l3 l4 h = some res) : Ev j_W1 93 0 0 T12_timesOfAll 66 [(0, .inr (.inr (some (12, 0)))), (1, .inl (l1)), (3, .inl (l3)), (4, .inl (l4))] [] h none res := by
  unfold F12_timesOfAll_66 at H
  refine ev_iinc (M := T12_timesOfAll) (pc := 66) 3 [(4, .inl (w32 (l4 + 1))), (0, .inr (.inr (some (12, 0)))), (1, .inl (l1)), (3, .inl (l3))] dX12_timesOfAll_66 (k := ?_)
  refine ev_goto (M := T12_timesOfAll) (pc := 69) 13 dX12_timesOfAll_69 (k := ?_)
  refine ev_lv [1, 2, 3, 0] [(0, .inr (.inr (some (12, 0)))), (1, .inl (l1)), (3, .inl (l3)), (4, .inl (w32 (l4 + 1)))] (k := ?_)
  exact hk13 l1 l3 (w32 (l4 + 1)) h _ H
set_option maxRecDepth 100000 in
set_option maxHeartbeats 4000000 in
theorem E12_timesOfAll_63 (k4 : Int → Int → JM → Option JM) (hk4 : ∀ (l1 : Int) (l2 : Int) (h : JM) (res : JM), k4 l1 l2 h = some res → Ev j_W1 93 0 0 T12_timesOfAll 4 [(0, .inr (.inr (some (12, 0)))), (1, .inl (l1)), (2, .inl (l2))] [] h none res) (k13 : Int → Int → Int → JM → Option JM) (hk13 : ∀ (l1 : Int) (l3 : Int) (l4 : Int) (h : JM) (res : JM), k13 l1 l3 l4 h = some res → Ev j_W1 93 0 0 T12_timesOfAll 13 [(0, .inr (.inr (some (12, 0)))), (1, .inl (l1)), (3, .inl (l3)), (4, .inl (l4))] [] h none res) (l1 : Int) (l4 : Int) (h : JM) (res : JM) (H : F12_timesOfAll_63 k4 k13 l1 l4 h = some res) : Ev j_W1 93 0 0 T12_timesOfAll 63 [(0, .inr (.inr (some (12, 0)))), (1, .inl (l1)), (4, .inl (l4))] [] h none res := by
  unfold F12_timesOfAll_63 at H
  refine ev_iload (M := T12_timesOfAll) (pc := 63) 2 dX12_timesOfAll_63 (k := ?_)
  refine ev_istore_n (M := T12_timesOfAll) (pc := 65) [(3, .inl (l4)), (0, .inr (.inr (some (12, 0)))), (1, .inl (l1)), (4, .inl (l4))] dX12_timesOfAll_65 (k := ?_)
  refine ev_lv [1, 2, 0, 3] [(0, .inr (.inr (some (12, 0)))), (1, .inl (l1)), (3, .inl (l4)), (4, .inl (l4))] (k := ?_)
  exact E12_timesOfAll_66 k4 hk4 k13 hk13 l1 l4 l4 h _ H
set_option maxRecDepth 100000 in
set_option maxHeartbeats 4000000 in
theorem E12_timesOfAll_13b (k4 : Int → Int → JM → Option JM) (hk4 : ∀ (l1 : Int) (l2 : Int) (h : JM) (res : JM), k4 l1 l2 h = some res → Ev j_W1 93 0 0 T12_timesOfAll 4 [(0, .inr (.inr (some (12, 0)))), (1, .inl (l1)), (2, .inl (l2))] [] h none res) (k13 : Int → Int → Int → JM → Option JM) (hk13 : ∀ (l1 : Int) (l3 : Int) (l4 : Int) (h : JM) (res : JM), k13 l1 l3 l4 h = some res → Ev j_W1 93 0 0 T12_timesOfAll 13 [(0, .inr (.inr (some (12, 0)))), (1, .inl (l1)), (3, .inl (l3)), (4, .inl (l4))] [] h none res) (l1 : Int) (l3 : Int) (l4 : Int) (h : JM) (res : JM) (H : F12_timesOfAll_13b k4 k13 l1 l3 l4 h = some res) : Ev j_W1 93 0 0 T12_timesOfAll 13 [(0, .inr (.inr (some (12, 0)))), (1, .inl (l1)), (3, .inl (l3)), (4, .inl (l4))] [] h none res := by
  unfold F12_timesOfAll_13b at H
  refine ev_iload (M := T12_timesOfAll) (pc := 13) 3 dX12_timesOfAll_13 (k := ?_)
  refine ev_bipush (M := T12_timesOfAll) (pc := 15) dX12_timesOfAll_15 (k := ?_)
  refine ev_icmpge (M := T12_timesOfAll) (pc := 17) 72 dX12_timesOfAll_17 (kt := fun hc => ?_) (kf := fun hc => ?_)
  · replace H := if_pe hc H
    refine ev_iload_n (M := T12_timesOfAll) (pc := 72) 2 dX12_timesOfAll_72 (k := ?_)
    refine ev_iconst (M := T12_timesOfAll) (pc := 73) dX12_timesOfAll_73 (k := ?_)
    refine ev_icmpeq (M := T12_timesOfAll) (pc := 74) 81 dX12_timesOfAll_74 (kt := fun hc => ?_) (kf := fun hc => ?_)
    · replace H := if_pe hc H
      refine ev_iconst (M := T12_timesOfAll) (pc := 81) dX12_timesOfAll_81 (k := ?_)
      refine ev_lv [0, 1, 2] [(0, .inr (.inr (some (12, 0)))), (1, .inl (l1)), (3, .inl (l3))] (k := ?_)
      exact E12_timesOfAll_82 k4 hk4 l1 l3 0 h _ H
    · replace H := if_ne hc H
      refine ev_iconst (M := T12_timesOfAll) (pc := 77) dX12_timesOfAll_77 (k := ?_)
      refine ev_goto (M := T12_timesOfAll) (pc := 78) 82 dX12_timesOfAll_78 (k := ?_)
      refine ev_lv [0, 1, 2] [(0, .inr (.inr (some (12, 0)))), (1, .inl (l1)), (3, .inl (l3))] (k := ?_)
      exact E12_timesOfAll_82 k4 hk4 l1 l3 1 h _ H
  · replace H := if_ne hc H
    refine ev_aload_n (M := T12_timesOfAll) (pc := 20) 0 dX12_timesOfAll_20 (k := ?_)
    refine ev_getR (M := T12_timesOfAll) (pc := 21) (t := 133) (x := some (133, 0)) fl_X12_95 dX12_timesOfAll_21 (hx := ry_12_33 _ _) (K := ?_)
    refine ev_iload (M := T12_timesOfAll) (pc := 24) 3 dX12_timesOfAll_24 (k := ?_)
    obtain ⟨⟨hi0, hi1⟩, H1⟩ := g_e H
    clear H
    refine ev_iaload (M := T12_timesOfAll) (pc := 26) (k := 133) hi0 hi1 dX12_timesOfAll_26 (hc := ac_133) (hlen := ln_133 _ _) (K := ?_)
    refine ev_iconst (M := T12_timesOfAll) (pc := 27) dX12_timesOfAll_27 (k := ?_)
    refine ev_icmpeq (M := T12_timesOfAll) (pc := 28) 66 dX12_timesOfAll_28 (kt := fun hc => ?_) (kf := fun hc => ?_)
    · replace H1 := if_pe hc H1
      exact E12_timesOfAll_66 k4 hk4 k13 hk13 l1 l3 l4 h _ H1
    · replace H1 := if_ne hc H1
      refine ev_aload_n (M := T12_timesOfAll) (pc := 31) 0 dX12_timesOfAll_31 (k := ?_)
      refine ev_getR (M := T12_timesOfAll) (pc := 32) (t := 134) (x := some (134, 0)) fl_X12_98 dX12_timesOfAll_32 (hx := ry_12_34 _ _) (K := ?_)
      refine ev_iload (M := T12_timesOfAll) (pc := 35) 3 dX12_timesOfAll_35 (k := ?_)
      obtain ⟨⟨hi0, hi1⟩, H2⟩ := g_e H1
      clear H1
      refine ev_iaload (M := T12_timesOfAll) (pc := 37) (k := 134) hi0 hi1 dX12_timesOfAll_37 (hc := ac_134) (hlen := ln_134 _ _) (K := ?_)
      refine ev_iload_n (M := T12_timesOfAll) (pc := 38) 1 dX12_timesOfAll_38 (k := ?_)
      refine ev_icmple (M := T12_timesOfAll) (pc := 39) 66 dX12_timesOfAll_39 (kt := fun hc => ?_) (kf := fun hc => ?_)
      · replace H2 := if_pe hc H2
        exact E12_timesOfAll_66 k4 hk4 k13 hk13 l1 l3 l4 h _ H2
      · replace H2 := if_ne hc H2
        refine ev_iload_n (M := T12_timesOfAll) (pc := 42) 2 dX12_timesOfAll_42 (k := ?_)
        refine ev_iconst (M := T12_timesOfAll) (pc := 43) dX12_timesOfAll_43 (k := ?_)
        refine ev_icmpeq (M := T12_timesOfAll) (pc := 44) 63 dX12_timesOfAll_44 (kt := fun hc => ?_) (kf := fun hc => ?_)
        · replace H2 := if_pe hc H2
          refine ev_lv [0, 1, 3] [(0, .inr (.inr (some (12, 0)))), (1, .inl (l1)), (4, .inl (l4))] (k := ?_)
          exact E12_timesOfAll_63 k4 hk4 k13 hk13 l1 l4 h _ H2
        · replace H2 := if_ne hc H2
          refine ev_aload_n (M := T12_timesOfAll) (pc := 47) 0 dX12_timesOfAll_47 (k := ?_)
          refine ev_getR (M := T12_timesOfAll) (pc := 48) (t := 134) (x := some (134, 0)) fl_X12_98 dX12_timesOfAll_48 (hx := ry_12_34 _ _) (K := ?_)
          refine ev_iload (M := T12_timesOfAll) (pc := 51) 3 dX12_timesOfAll_51 (k := ?_)
          obtain ⟨⟨hi0, hi1⟩, H3⟩ := g_e H2
          clear H2
          refine ev_iaload (M := T12_timesOfAll) (pc := 53) (k := 134) hi0 hi1 dX12_timesOfAll_53 (hc := ac_134) (hlen := ln_134 _ _) (K := ?_)
          refine ev_aload_n (M := T12_timesOfAll) (pc := 54) 0 dX12_timesOfAll_54 (k := ?_)
          refine ev_getR (M := T12_timesOfAll) (pc := 55) (t := 134) (x := some (134, 0)) fl_X12_98 dX12_timesOfAll_55 (hx := ry_12_34 _ _) (K := ?_)
          refine ev_iload_n (M := T12_timesOfAll) (pc := 58) 2 dX12_timesOfAll_58 (k := ?_)
          obtain ⟨⟨hi0, hi1⟩, H4⟩ := g_e H3
          clear H3
          refine ev_iaload (M := T12_timesOfAll) (pc := 59) (k := 134) hi0 hi1 dX12_timesOfAll_59 (hc := ac_134) (hlen := ln_134 _ _) (K := ?_)
          refine ev_icmpge (M := T12_timesOfAll) (pc := 60) 66 dX12_timesOfAll_60 (kt := fun hc => ?_) (kf := fun hc => ?_)
          · replace H4 := if_pe hc H4
            exact E12_timesOfAll_66 k4 hk4 k13 hk13 l1 l3 l4 h _ H4
          · replace H4 := if_ne hc H4
            refine ev_lv [0, 1, 3] [(0, .inr (.inr (some (12, 0)))), (1, .inl (l1)), (4, .inl (l4))] (k := ?_)
            exact E12_timesOfAll_63 k4 hk4 k13 hk13 l1 l4 h _ H4
theorem E12_timesOfAll_13 (k4 : Int → Int → JM → Option JM) (hk4 : ∀ (l1 : Int) (l2 : Int) (h : JM) (res : JM), k4 l1 l2 h = some res → Ev j_W1 93 0 0 T12_timesOfAll 4 [(0, .inr (.inr (some (12, 0)))), (1, .inl (l1)), (2, .inl (l2))] [] h none res) (n : Nat) : ∀ (l1 : Int) (l3 : Int) (l4 : Int) (h : JM) (res : JM), F12_timesOfAll_13 k4 n l1 l3 l4 h = some res → Ev j_W1 93 0 0 T12_timesOfAll 13 [(0, .inr (.inr (some (12, 0)))), (1, .inl (l1)), (3, .inl (l3)), (4, .inl (l4))] [] h none res := by
  induction n with
  | zero =>
    intro l1 l3 l4 h res H
    cases H
  | succ n ih =>
    intro l1 l3 l4 h res H
    exact E12_timesOfAll_13b k4 hk4 (F12_timesOfAll_13 k4 n) ih l1 l3 l4 h res H
set_option maxRecDepth 100000 in
set_option maxHeartbeats 4000000 in
theorem E12_timesOfAll_4b (k4 : Int → Int → JM → Option JM) (hk4 : ∀ (l1 : Int) (l2 : Int) (h : JM) (res : JM), k4 l1 l2 h = some res → Ev j_W1 93 0 0 T12_timesOfAll 4 [(0, .inr (.inr (some (12, 0)))), (1, .inl (l1)), (2, .inl (l2))] [] h none res) (l1 : Int) (l2 : Int) (h : JM) (res : JM) (H : F12_timesOfAll_4b k4 l1 l2 h = some res) : Ev j_W1 93 0 0 T12_timesOfAll 4 [(0, .inr (.inr (some (12, 0)))), (1, .inl (l1)), (2, .inl (l2))] [] h none res := by
  unfold F12_timesOfAll_4b at H
  refine ev_iload_n (M := T12_timesOfAll) (pc := 4) 2 dX12_timesOfAll_4 (k := ?_)
  refine ev_ifeq (M := T12_timesOfAll) (pc := 5) 102 dX12_timesOfAll_5 (kt := fun hc => ?_) (kf := fun hc => ?_)
  · replace H := if_pe hc H
    cases H
    exact ev_return (M := T12_timesOfAll) (pc := 102) dX12_timesOfAll_102
  · replace H := if_ne hc H
    refine ev_iconst (M := T12_timesOfAll) (pc := 8) dX12_timesOfAll_8 (k := ?_)
    refine ev_istore_n (M := T12_timesOfAll) (pc := 9) [(3, .inl ((-1))), (0, .inr (.inr (some (12, 0)))), (1, .inl (l1)), (2, .inl (l2))] dX12_timesOfAll_9 (k := ?_)
    refine ev_iconst (M := T12_timesOfAll) (pc := 10) dX12_timesOfAll_10 (k := ?_)
    refine ev_istore (M := T12_timesOfAll) (pc := 11) [(4, .inl (0)), (3, .inl ((-1))), (0, .inr (.inr (some (12, 0)))), (1, .inl (l1)), (2, .inl (l2))] dX12_timesOfAll_11 (k := ?_)
    refine ev_lv [2, 3, 1, 0] [(0, .inr (.inr (some (12, 0)))), (1, .inl (l1)), (3, .inl ((-1))), (4, .inl (0))] (k := ?_)
    exact E12_timesOfAll_13 k4 hk4 j_fu l1 (-1) 0 h _ H
theorem E12_timesOfAll_4 (n : Nat) : ∀ (l1 : Int) (l2 : Int) (h : JM) (res : JM), F12_timesOfAll_4 n l1 l2 h = some res → Ev j_W1 93 0 0 T12_timesOfAll 4 [(0, .inr (.inr (some (12, 0)))), (1, .inl (l1)), (2, .inl (l2))] [] h none res := by
  induction n with
  | zero =>
    intro l1 l2 h res H
    cases H
  | succ n ih =>
    intro l1 l2 h res H
    exact E12_timesOfAll_4b (F12_timesOfAll_4 n) ih l1 l2 h res H
set_option maxRecDepth 100000 in
set_option maxHeartbeats 4000000 in
theorem C12_timesOfAll {h : JM} {res : JM} (H : F12_timesOfAll h = some res) : Cn j_W1 93 0 0 yX12_timesOfAll cX12_timesOfAll 5 none [.inr (.inr (some (12, 0)))] h none res := by
  refine Cn.by (own := RX12) (b := false) [(0, .inr (.inr (some (12, 0))))] rfl (fun z => by cases z) (by decide +kernel) (K := ?_)
  unfold F12_timesOfAll at H
  refine ev_iconst (M := T12_timesOfAll) (pc := 0) dX12_timesOfAll_0 (k := ?_)
  refine ev_istore_n (M := T12_timesOfAll) (pc := 1) [(1, .inl ((-1))), (0, .inr (.inr (some (12, 0))))] dX12_timesOfAll_1 (k := ?_)
  refine ev_iconst (M := T12_timesOfAll) (pc := 2) dX12_timesOfAll_2 (k := ?_)
  refine ev_istore_n (M := T12_timesOfAll) (pc := 3) [(2, .inl (1)), (1, .inl ((-1))), (0, .inr (.inr (some (12, 0))))] dX12_timesOfAll_3 (k := ?_)
  refine ev_lv [2, 1, 0] [(0, .inr (.inr (some (12, 0)))), (1, .inl ((-1))), (2, .inl (1))] (k := ?_)
  exact E12_timesOfAll_4 j_fu (-1) 1 h _ H
