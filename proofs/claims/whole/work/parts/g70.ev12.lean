-- X11_link
abbrev T11_link : JT := (RX11, cX11_link, 4, some .int, false)
set_option maxRecDepth 100000 in
set_option maxHeartbeats 4000000 in
theorem C11_link {l1 : Int} {l2 : Int} {h : JM} {res : (Int × JM)} (H : F11_link l1 l2 h = some res) : Cn j_W1 2 0 0 yX11_link cX11_link 4 (some .int) [.inr (.inr (some (11, 0))), .inl (l1), .inl (l2)] h (some (.inl res.1)) res.2 := by
  refine Cn.by (own := RX11) (b := false) [(0, .inr (.inr (some (11, 0)))), (1, .inl (l1)), (2, .inl (l2))] rfl (fun z => by cases z) (by decide +kernel) (K := ?_)
  unfold F11_link at H
  refine ev_iload_n (M := T11_link) (pc := 0) 1 dX11_link_0 (k := ?_)
  obtain ⟨q1, hq, H1⟩ := bd_e H
  clear H
  refine ev_callS (M := T11_link) (pc := 1) (mc := 0) (ms := 0) (st := []) (C11_isExchange hq) md_X11_isExchange ss_X11_isExchange ml_X11_91 dX11_link_1 _ (by decide) (K := ?_)
  refine ev_ifne (M := T11_link) (pc := 4) 10 dX11_link_4 (kt := fun hc => ?_) (kf := fun hc => ?_)
  · replace H1 := if_ne hc H1
    refine ev_aload_n (M := T11_link) (pc := 10) 0 dX11_link_10 (k := ?_)
    refine ev_getR (M := T11_link) (pc := 11) (t := 38) (x := some (38, 0)) fl_X11_11 dX11_link_11 (hx := ry_11_2 _ _) (K := ?_)
    refine ev_iload_n (M := T11_link) (pc := 14) 1 dX11_link_14 (k := ?_)
    obtain ⟨⟨hi0, hi1⟩, H2⟩ := g_e H1
    clear H1
    refine ev_aaload (M := T11_link) (pc := 15) (k := 38) 1 (x := some (1, l1)) hi0 hi1 dX11_link_15 (hc := ac_38) (hlen := ln_38 _ _) (hx := rz_38 _ _ _) (K := ?_)
    refine ev_getR (M := T11_link) (pc := 16) (t := 5) (x := some (5, l1)) fl_X11_261 dX11_link_16 (hx := ry_1_7 _ _) (K := ?_)
    refine ev_astore_n (M := T11_link) (pc := 19) [(3, .inr (.inr (some (5, l1)))), (0, .inr (.inr (some (11, 0)))), (1, .inl (l1)), (2, .inl (l2))] dX11_link_19 (k := ?_)
    refine ev_iload_n (M := T11_link) (pc := 20) 3 dX11_link_20 (k := ?_)
    by_cases hs0 : l2 = 0
    · replace H2 := if_pe hs0 H2
      refine ev_tableIn (M := T11_link) (pc := 21) (off := 43) 64 dX11_link_21 (by omega) (by omega) (by rw [hs0]; rfl) (k := ?_)
      refine ev_aload_n (M := T11_link) (pc := 64) 0 dX11_link_64 (k := ?_)
      refine ev_getI (M := T11_link) (pc := 65) (x := q1.2.1 5 l1 0) fl_X11_265 dX11_link_65 (K := ?_)
      cases H2
      exact ev_ireturn (M := T11_link) (pc := 68) dX11_link_68
    · replace H2 := if_ne hs0 H2
      by_cases hs1 : l2 = 1
      · replace H2 := if_pe hs1 H2
        refine ev_tableIn (M := T11_link) (pc := 21) (off := 48) 69 dX11_link_21 (by omega) (by omega) (by rw [hs1]; rfl) (k := ?_)
        refine ev_aload_n (M := T11_link) (pc := 69) 0 dX11_link_69 (k := ?_)
        refine ev_getI (M := T11_link) (pc := 70) (x := q1.2.1 5 l1 1) fl_X11_270 dX11_link_70 (K := ?_)
        cases H2
        exact ev_ireturn (M := T11_link) (pc := 73) dX11_link_73
      · replace H2 := if_ne hs1 H2
        by_cases hs2 : l2 = 2
        · replace H2 := if_pe hs2 H2
          refine ev_tableIn (M := T11_link) (pc := 21) (off := 53) 74 dX11_link_21 (by omega) (by omega) (by rw [hs2]; rfl) (k := ?_)
          refine ev_aload_n (M := T11_link) (pc := 74) 0 dX11_link_74 (k := ?_)
          refine ev_getI (M := T11_link) (pc := 75) (x := q1.2.1 5 l1 2) fl_X11_273 dX11_link_75 (K := ?_)
          cases H2
          exact ev_ireturn (M := T11_link) (pc := 78) dX11_link_78
        · replace H2 := if_ne hs2 H2
          by_cases hs3 : l2 = 3
          · replace H2 := if_pe hs3 H2
            refine ev_tableIn (M := T11_link) (pc := 21) (off := 58) 79 dX11_link_21 (by omega) (by omega) (by rw [hs3]; rfl) (k := ?_)
            refine ev_aload_n (M := T11_link) (pc := 79) 0 dX11_link_79 (k := ?_)
            refine ev_getI (M := T11_link) (pc := 80) (x := q1.2.1 5 l1 4) fl_X11_276 dX11_link_80 (K := ?_)
            cases H2
            exact ev_ireturn (M := T11_link) (pc := 83) dX11_link_83
          · replace H2 := if_ne hs3 H2
            by_cases hs4 : l2 = 4
            · replace H2 := if_pe hs4 H2
              refine ev_tableIn (M := T11_link) (pc := 21) (off := 63) 84 dX11_link_21 (by omega) (by omega) (by rw [hs4]; rfl) (k := ?_)
              refine ev_aload_n (M := T11_link) (pc := 84) 0 dX11_link_84 (k := ?_)
              refine ev_getI (M := T11_link) (pc := 85) (x := q1.2.1 5 l1 5) fl_X11_279 dX11_link_85 (K := ?_)
              cases H2
              exact ev_ireturn (M := T11_link) (pc := 88) dX11_link_88
            · replace H2 := if_ne hs4 H2
              by_cases hs5 : l2 = 5
              · replace H2 := if_pe hs5 H2
                refine ev_tableIn (M := T11_link) (pc := 21) (off := 68) 89 dX11_link_21 (by omega) (by omega) (by rw [hs5]; rfl) (k := ?_)
                refine ev_aload_n (M := T11_link) (pc := 89) 0 dX11_link_89 (k := ?_)
                refine ev_getI (M := T11_link) (pc := 90) (x := q1.2.1 5 l1 6) fl_X11_282 dX11_link_90 (K := ?_)
                cases H2
                exact ev_ireturn (M := T11_link) (pc := 93) dX11_link_93
              · replace H2 := if_ne hs5 H2
                by_cases hs6 : l2 = 6
                · replace H2 := if_pe hs6 H2
                  refine ev_tableIn (M := T11_link) (pc := 21) (off := 73) 94 dX11_link_21 (by omega) (by omega) (by rw [hs6]; rfl) (k := ?_)
                  refine ev_aload_n (M := T11_link) (pc := 94) 0 dX11_link_94 (k := ?_)
                  refine ev_getI (M := T11_link) (pc := 95) (x := q1.2.1 5 l1 7) fl_X11_285 dX11_link_95 (K := ?_)
                  cases H2
                  exact ev_ireturn (M := T11_link) (pc := 98) dX11_link_98
                · replace H2 := if_ne hs6 H2
                  refine ev_tableOut (M := T11_link) (pc := 21) 99 dX11_link_21 (by omega) (k := ?_)
                  refine ev_bipush (M := T11_link) (pc := 99) dX11_link_99 (k := ?_)
                  cases H2
                  exact ev_ireturn (M := T11_link) (pc := 101) dX11_link_101
  · replace H1 := if_pe hc H1
    refine ev_bipush (M := T11_link) (pc := 7) dX11_link_7 (k := ?_)
    cases H1
    exact ev_ireturn (M := T11_link) (pc := 9) dX11_link_9
-- X11_lose
abbrev T11_lose : JT := (RX11, cX11_lose, 3, some .int, false)
set_option maxRecDepth 100000 in
set_option maxHeartbeats 4000000 in
theorem E11_lose_15 (h : JM) (res : (Int × JM)) (H : F11_lose_15 h = some res) : Ev j_W1 2 0 0 T11_lose 15 [] [] h (some (.inl res.1)) res.2 := by
  unfold F11_lose_15 at H
  refine ev_bipush (M := T11_lose) (pc := 15) dX11_lose_15 (k := ?_)
  cases H
  exact ev_ireturn (M := T11_lose) (pc := 17) dX11_lose_17
set_option maxRecDepth 100000 in
set_option maxHeartbeats 4000000 in
theorem C11_lose {l1 : Int} {l2 : Int} {h : JM} {res : (Int × JM)} (H : F11_lose l1 l2 h = some res) : Cn j_W1 2 0 0 yX11_lose cX11_lose 3 (some .int) [.inr (.inr (some (11, 0))), .inl (l1), .inl (l2)] h (some (.inl res.1)) res.2 := by
  refine Cn.by (own := RX11) (b := false) [(0, .inr (.inr (some (11, 0)))), (1, .inl (l1)), (2, .inl (l2))] rfl (fun z => by cases z) (by decide +kernel) (K := ?_)
  unfold F11_lose at H
  refine ev_iload_n (M := T11_lose) (pc := 0) 1 dX11_lose_0 (k := ?_)
  obtain ⟨q1, hq, H1⟩ := bd_e H
  clear H
  refine ev_callS (M := T11_lose) (pc := 1) (mc := 0) (ms := 0) (st := []) (C11_isExchange hq) md_X11_isExchange ss_X11_isExchange ml_X11_91 dX11_lose_1 _ (by decide) (K := ?_)
  refine ev_ifeq (M := T11_lose) (pc := 4) 15 dX11_lose_4 (kt := fun hc => ?_) (kf := fun hc => ?_)
  · replace H1 := if_pe hc H1
    refine ev_lv [] [] (k := ?_)
    exact E11_lose_15 q1.2 _ H1
  · replace H1 := if_ne hc H1
    refine ev_aload_n (M := T11_lose) (pc := 7) 0 dX11_lose_7 (k := ?_)
    refine ev_iload_n (M := T11_lose) (pc := 8) 2 dX11_lose_8 (k := ?_)
    obtain ⟨q2, hq, H2⟩ := bd_e H1
    clear H1
    refine ev_callV (M := T11_lose) (pc := 9) (mc := 0) (ms := 0) (st := []) (C11_isUnitToCome hq) md_X11_isUnitToCome im_X11_isUnitToCome se_X11_isUnitToCome ml_X11_170 dX11_lose_9 _ (by decide) (K := ?_)
    refine ev_ifne (M := T11_lose) (pc := 12) 18 dX11_lose_12 (kt := fun hc => ?_) (kf := fun hc => ?_)
    · replace H2 := if_ne hc H2
      refine ev_aload_n (M := T11_lose) (pc := 18) 0 dX11_lose_18 (k := ?_)
      refine ev_getR (M := T11_lose) (pc := 19) (t := 7) (x := some (7, 1)) fl_X11_41 dX11_lose_19 (hx := ry_11_7 _ _) (K := ?_)
      refine ev_iload_n (M := T11_lose) (pc := 22) 1 dX11_lose_22 (k := ?_)
      refine ev_iload_n (M := T11_lose) (pc := 23) 2 dX11_lose_23 (k := ?_)
      refine ev_iconst (M := T11_lose) (pc := 24) dX11_lose_24 (k := ?_)
      obtain ⟨q3, hq, H3⟩ := bd_e H2
      clear H2
      refine ev_callV (M := T11_lose) (pc := 25) (mc := 0) (ms := 0) (st := []) (C7_add hq) md_X7_add im_X7_add se_X7_add ml_X11_173 dX11_lose_25 _ (by decide) (K := ?_)
      cases H3
      exact ev_ireturn (M := T11_lose) (pc := 28) dX11_lose_28
    · replace H2 := if_pe hc H2
      refine ev_lv [] [] (k := ?_)
      exact E11_lose_15 q2.2 _ H2
-- X11_member
abbrev T11_member : JT := (RX11, cX11_member, 4, some .int, false)
set_option maxRecDepth 100000 in
set_option maxHeartbeats 4000000 in
theorem E11_member_56 (h : JM) (res : (Int × JM)) (H : F11_member_56 h = some res) : Ev j_W1 2 0 0 T11_member 56 [] [] h (some (.inl res.1)) res.2 := by
  unfold F11_member_56 at H
  refine ev_bipush (M := T11_member) (pc := 56) dX11_member_56 (k := ?_)
  cases H
  exact ev_ireturn (M := T11_member) (pc := 58) dX11_member_58
set_option maxRecDepth 100000 in
set_option maxHeartbeats 4000000 in
theorem E11_member_16 (h : JM) (res : (Int × JM)) (H : F11_member_16 h = some res) : Ev j_W1 2 0 0 T11_member 16 [] [] h (some (.inl res.1)) res.2 := by
  unfold F11_member_16 at H
  refine ev_bipush (M := T11_member) (pc := 16) dX11_member_16 (k := ?_)
  cases H
  exact ev_ireturn (M := T11_member) (pc := 18) dX11_member_18
set_option maxRecDepth 100000 in
set_option maxHeartbeats 4000000 in
theorem C11_member {l1 : Int} {l2 : Int} {h : JM} {res : (Int × JM)} (H : F11_member l1 l2 h = some res) : Cn j_W1 2 0 0 yX11_member cX11_member 4 (some .int) [.inr (.inr (some (11, 0))), .inl (l1), .inl (l2)] h (some (.inl res.1)) res.2 := by
  refine Cn.by (own := RX11) (b := false) [(0, .inr (.inr (some (11, 0)))), (1, .inl (l1)), (2, .inl (l2))] rfl (fun z => by cases z) (by decide +kernel) (K := ?_)
  unfold F11_member at H
  refine ev_iload_n (M := T11_member) (pc := 0) 1 dX11_member_0 (k := ?_)
  refine ev_iconst (M := T11_member) (pc := 1) dX11_member_1 (k := ?_)
  refine ev_iconst (M := T11_member) (pc := 2) dX11_member_2 (k := ?_)
  obtain ⟨q1, hq, H1⟩ := bd_e H
  clear H
  refine ev_callS (M := T11_member) (pc := 3) (mc := 0) (ms := 0) (st := []) (C11_isWithin hq) md_X11_isWithin ss_X11_isWithin ml_X11_79 dX11_member_3 _ (by decide) (K := ?_)
  refine ev_ifeq (M := T11_member) (pc := 6) 16 dX11_member_6 (kt := fun hc => ?_) (kf := fun hc => ?_)
  · replace H1 := if_pe hc H1
    refine ev_lv [] [] (k := ?_)
    exact E11_member_16 q1.2 _ H1
  · replace H1 := if_ne hc H1
    refine ev_iload_n (M := T11_member) (pc := 9) 2 dX11_member_9 (k := ?_)
    obtain ⟨q2, hq, H2⟩ := bd_e H1
    clear H1
    refine ev_callS (M := T11_member) (pc := 10) (mc := 0) (ms := 0) (st := []) (C11_isLine hq) md_X11_isLine ss_X11_isLine ml_X11_115 dX11_member_10 _ (by decide) (K := ?_)
    refine ev_ifne (M := T11_member) (pc := 13) 19 dX11_member_13 (kt := fun hc => ?_) (kf := fun hc => ?_)
    · replace H2 := if_ne hc H2
      refine ev_aload_n (M := T11_member) (pc := 19) 0 dX11_member_19 (k := ?_)
      refine ev_getR (M := T11_member) (pc := 20) (t := 38) (x := some (38, 0)) fl_X11_11 dX11_member_20 (hx := ry_11_2 _ _) (K := ?_)
      refine ev_iload_n (M := T11_member) (pc := 23) 2 dX11_member_23 (k := ?_)
      refine ev_bipush (M := T11_member) (pc := 24) dX11_member_24 (k := ?_)
      refine ev_idiv (M := T11_member) (pc := 26) dX11_member_26 (by decide) (k := ?_)
      obtain ⟨⟨hi0, hi1⟩, H3⟩ := g_e H2
      clear H2
      refine ev_aaload (M := T11_member) (pc := 27) (k := 38) 1 (x := some (1, (j_div l2 8))) hi0 hi1 dX11_member_27 (hc := ac_38) (hlen := ln_38 _ _) (hx := rz_38 _ _ _) (K := ?_)
      refine ev_getR (M := T11_member) (pc := 28) (t := 21) (x := some (21, (j_div l2 8))) fl_X11_118 dX11_member_28 (hx := ry_1_2 _ _) (K := ?_)
      refine ev_iload_n (M := T11_member) (pc := 31) 1 dX11_member_31 (k := ?_)
      obtain ⟨⟨hi0, hi1⟩, H4⟩ := g_e H3
      clear H3
      refine ev_aaload (M := T11_member) (pc := 32) (k := 21) 2 (x := some (2, (3 * (j_div l2 8) + l1))) hi0 hi1 dX11_member_32 (hc := ac_21) (hlen := ln_21 _ _) (hx := rz_21 _ _ _) (K := ?_)
      refine ev_astore_n (M := T11_member) (pc := 33) [(3, .inr (.inr (some (2, (3 * (j_div l2 8) + l1))))), (0, .inr (.inr (some (11, 0)))), (1, .inl (l1)), (2, .inl (l2))] dX11_member_33 (k := ?_)
      refine ev_aload_n (M := T11_member) (pc := 34) 0 dX11_member_34 (k := ?_)
      refine ev_getI (M := T11_member) (pc := 35) (x := q2.2.1 2 (3 * (j_div l2 8) + l1) 1) fl_X11_122 dX11_member_35 (K := ?_)
      refine ev_bipush (M := T11_member) (pc := 38) dX11_member_38 (k := ?_)
      refine ev_icmpge (M := T11_member) (pc := 40) 56 dX11_member_40 (kt := fun hc => ?_) (kf := fun hc => ?_)
      · replace H4 := if_pe hc H4
        refine ev_lv [] [] (k := ?_)
        exact E11_member_56 q2.2 _ H4
      · replace H4 := if_ne hc H4
        refine ev_aload_n (M := T11_member) (pc := 43) 0 dX11_member_43 (k := ?_)
        refine ev_aload_n (M := T11_member) (pc := 44) 1 dX11_member_44 (k := ?_)
        refine ev_getR (M := T11_member) (pc := 45) (t := 39) (x := some (39, 0)) fl_X11_17 dX11_member_45 (hx := ry_11_3 _ _) (K := ?_)
        refine ev_iload_n (M := T11_member) (pc := 48) 3 dX11_member_48 (k := ?_)
        obtain ⟨⟨hi0, hi1⟩, H5⟩ := g_e H4
        clear H4
        refine ev_aaload (M := T11_member) (pc := 49) (k := 39) 4 (x := some (4, l2)) hi0 hi1 dX11_member_49 (hc := ac_39) (hlen := ln_39 _ _) (hx := rz_39 _ _ _) (K := ?_)
        obtain ⟨q3, hq, H6⟩ := bd_e H5
        clear H5
        refine ev_callV (M := T11_member) (pc := 50) (mc := 0) (ms := 0) (st := []) (C2_has hq) md_X2_has im_X2_has se_X2_has ml_X11_127 dX11_member_50 _ (by decide) (K := ?_)
        refine ev_ifeq (M := T11_member) (pc := 53) 59 dX11_member_53 (kt := fun hc => ?_) (kf := fun hc => ?_)
        · replace H6 := if_pe hc H6
          refine ev_aload_n (M := T11_member) (pc := 59) 0 dX11_member_59 (k := ?_)
          refine ev_getR (M := T11_member) (pc := 60) (t := 25) (x := some (25, (3 * (j_div l2 8) + l1))) fl_X11_131 dX11_member_60 (hx := ry_2_0 _ _) (K := ?_)
          refine ev_aload_n (M := T11_member) (pc := 63) 0 dX11_member_63 (k := ?_)
          refine ev_getI (M := T11_member) (pc := 64) (x := q3.2.1 2 (3 * (j_div l2 8) + l1) 1) fl_X11_122 dX11_member_64 (K := ?_)
          refine ev_aload_n (M := T11_member) (pc := 67) 1 dX11_member_67 (k := ?_)
          refine ev_getR (M := T11_member) (pc := 68) (t := 39) (x := some (39, 0)) fl_X11_17 dX11_member_68 (hx := ry_11_3 _ _) (K := ?_)
          refine ev_iload_n (M := T11_member) (pc := 71) 3 dX11_member_71 (k := ?_)
          obtain ⟨⟨hi0, hi1⟩, H7⟩ := g_e H6
          clear H6
          refine ev_aaload (M := T11_member) (pc := 72) (k := 39) 4 (x := some (4, l2)) hi0 hi1 dX11_member_72 (hc := ac_39) (hlen := ln_39 _ _) (hx := rz_39 _ _ _) (K := ?_)
          obtain ⟨⟨hi0, hi1⟩, H8⟩ := g_e H7
          clear H7
          obtain ⟨h4, eh4, H9⟩ := lt_e H8
          clear H8
          refine ev_aastore (M := T11_member) (pc := 73) (k := 25) j_ok1 4 (some l2) hi0 hi1 eh4 dX11_member_73 (hly := rm_25 _ _) (hc := ac_25) (hlen := ln_25 _ _) (K := ?_)
          refine ev_aload_n (M := T11_member) (pc := 74) 0 dX11_member_74 (k := ?_)
          refine ev_dup (M := T11_member) (pc := 75) dX11_member_75 (k := ?_)
          refine ev_getI (M := T11_member) (pc := 76) (x := h4.1 2 (3 * (j_div l2 8) + l1) 1) fl_X11_122 dX11_member_76 (K := ?_)
          refine ev_iconst (M := T11_member) (pc := 79) dX11_member_79 (k := ?_)
          refine ev_iadd (M := T11_member) (pc := 80) dX11_member_80 (k := ?_)
          obtain ⟨h5, eh5, H10⟩ := lt_e H9
          clear H9
          refine ev_putI (M := T11_member) (pc := 81) j_ok1 fl_X11_122 eh5 dX11_member_81 (K := ?_)
          refine ev_aload_n (M := T11_member) (pc := 84) 0 dX11_member_84 (k := ?_)
          refine ev_getI (M := T11_member) (pc := 85) (x := h5.1 2 (3 * (j_div l2 8) + l1) 1) fl_X11_122 dX11_member_85 (K := ?_)
          cases H10
          exact ev_ireturn (M := T11_member) (pc := 88) dX11_member_88
        · replace H6 := if_ne hc H6
          refine ev_lv [] [] (k := ?_)
          exact E11_member_56 q3.2 _ H6
    · replace H2 := if_pe hc H2
      refine ev_lv [] [] (k := ?_)
      exact E11_member_16 q2.2 _ H2
-- X11_sideNumber
abbrev T11_sideNumber : JT := (RX11, cX11_sideNumber, 2, some .int, false)
set_option maxRecDepth 100000 in
set_option maxHeartbeats 4000000 in
theorem C11_sideNumber {l0 : Option Int} {l1 : Option Int} {h : JM} {res : (Int × JM)} (H : F11_sideNumber l0 l1 h = some res) : Cn j_W1 1 0 0 yX11_sideNumber cX11_sideNumber 2 (some .int) [.inr (.inr (Option.map (Prod.mk 4) (l0))), .inr (.inr (Option.map (Prod.mk 8) (l1)))] h (some (.inl res.1)) res.2 := by
  refine Cn.by (own := RX11) (b := false) [(0, .inr (.inr (Option.map (Prod.mk 4) (l0)))), (1, .inr (.inr (Option.map (Prod.mk 8) (l1))))] rfl (fun z => by cases z) (by decide +kernel) (K := ?_)
  unfold F11_sideNumber at H
  refine ev_aload_n (M := T11_sideNumber) (pc := 0) 0 dX11_sideNumber_0 (k := ?_)
  refine ev_nullK (M := T11_sideNumber) (pc := 1) l0 9 dX11_sideNumber_1 (kt := fun hc => ?_) (kf := fun hc => ?_)
  · replace H := if_pe hc H
    refine ev_aload_n (M := T11_sideNumber) (pc := 9) 1 dX11_sideNumber_9 (k := ?_)
    refine ev_nullK (M := T11_sideNumber) (pc := 10) l1 23 dX11_sideNumber_10 (kt := fun hc => ?_) (kf := fun hc => ?_)
    · replace H := if_pe hc H
      refine ev_iconst (M := T11_sideNumber) (pc := 23) dX11_sideNumber_23 (k := ?_)
      cases H
      exact ev_ireturn (M := T11_sideNumber) (pc := 24) dX11_sideNumber_24
    · replace H := if_ne hc H
      refine ev_bipush (M := T11_sideNumber) (pc := 13) dX11_sideNumber_13 (k := ?_)
      refine ev_aload_n (M := T11_sideNumber) (pc := 15) 1 dX11_sideNumber_15 (k := ?_)
      obtain ⟨a1, ea1, H1⟩ := bd_e H
      clear H
      rw [ea1]
      refine ev_getI (M := T11_sideNumber) (pc := 16) (x := h.1 8 a1 0) fl_X11_320 dX11_sideNumber_16 (K := ?_)
      refine ev_iadd (M := T11_sideNumber) (pc := 19) dX11_sideNumber_19 (k := ?_)
      refine ev_goto (M := T11_sideNumber) (pc := 20) 24 dX11_sideNumber_20 (k := ?_)
      cases H1
      exact ev_ireturn (M := T11_sideNumber) (pc := 24) dX11_sideNumber_24
  · replace H := if_ne hc H
    refine ev_aload_n (M := T11_sideNumber) (pc := 4) 0 dX11_sideNumber_4 (k := ?_)
    obtain ⟨a2, ea2, H1⟩ := bd_e H
    clear H
    rw [ea2]
    refine ev_getI (M := T11_sideNumber) (pc := 5) (x := h.1 4 a2 0) fl_X11_317 dX11_sideNumber_5 (K := ?_)
    cases H1
    exact ev_ireturn (M := T11_sideNumber) (pc := 8) dX11_sideNumber_8
-- X11_partner
abbrev T11_partner : JT := (RX11, cX11_partner, 3, some .int, false)
set_option maxRecDepth 100000 in
set_option maxHeartbeats 4000000 in
theorem E11_partner_32 (h : JM) (res : (Int × JM)) (H : F11_partner_32 h = some res) : Ev j_W1 2 0 0 T11_partner 32 [] [] h (some (.inl res.1)) res.2 := by
  unfold F11_partner_32 at H
  refine ev_iconst (M := T11_partner) (pc := 32) dX11_partner_32 (k := ?_)
  cases H
  exact ev_ireturn (M := T11_partner) (pc := 33) dX11_partner_33
set_option maxRecDepth 100000 in
set_option maxHeartbeats 4000000 in
theorem C11_partner {l1 : Int} {h : JM} {res : (Int × JM)} (H : F11_partner l1 h = some res) : Cn j_W1 2 0 0 yX11_partner cX11_partner 3 (some .int) [.inr (.inr (some (11, 0))), .inl (l1)] h (some (.inl res.1)) res.2 := by
  refine Cn.by (own := RX11) (b := false) [(0, .inr (.inr (some (11, 0)))), (1, .inl (l1))] rfl (fun z => by cases z) (by decide +kernel) (K := ?_)
  unfold F11_partner at H
  refine ev_iload_n (M := T11_partner) (pc := 0) 1 dX11_partner_0 (k := ?_)
  obtain ⟨q1, hq, H1⟩ := bd_e H
  clear H
  refine ev_callS (M := T11_partner) (pc := 1) (mc := 0) (ms := 0) (st := []) (C11_isLine hq) md_X11_isLine ss_X11_isLine ml_X11_115 dX11_partner_1 _ (by decide) (K := ?_)
  refine ev_ifne (M := T11_partner) (pc := 4) 10 dX11_partner_4 (kt := fun hc => ?_) (kf := fun hc => ?_)
  · replace H1 := if_ne hc H1
    refine ev_aload_n (M := T11_partner) (pc := 10) 0 dX11_partner_10 (k := ?_)
    refine ev_getR (M := T11_partner) (pc := 11) (t := 39) (x := some (39, 0)) fl_X11_17 dX11_partner_11 (hx := ry_11_3 _ _) (K := ?_)
    refine ev_iload_n (M := T11_partner) (pc := 14) 1 dX11_partner_14 (k := ?_)
    obtain ⟨⟨hi0, hi1⟩, H2⟩ := g_e H1
    clear H1
    refine ev_aaload (M := T11_partner) (pc := 15) (k := 39) 4 (x := some (4, l1)) hi0 hi1 dX11_partner_15 (hc := ac_39) (hlen := ln_39 _ _) (hx := rz_39 _ _ _) (K := ?_)
    refine ev_getR (M := T11_partner) (pc := 16) (t := 0) (x := Option.map (Prod.mk 0) (q1.2.2.2 4 l1 11)) fl_X11_206 dX11_partner_16 (hx := ry_4_11 _ _) (K := ?_)
    refine ev_astore_n (M := T11_partner) (pc := 19) [(2, .inr (.inr (Option.map (Prod.mk 0) (q1.2.2.2 4 l1 11)))), (0, .inr (.inr (some (11, 0)))), (1, .inl (l1))] dX11_partner_19 (k := ?_)
    refine ev_aload_n (M := T11_partner) (pc := 20) 0 dX11_partner_20 (k := ?_)
    refine ev_nullK (M := T11_partner) (pc := 21) (q1.2.2.2 4 l1 11) 32 dX11_partner_21 (kt := fun hc => ?_) (kf := fun hc => ?_)
    · replace H2 := if_pe hc H2
      refine ev_lv [] [] (k := ?_)
      exact E11_partner_32 q1.2 _ H2
    · replace H2 := if_ne hc H2
      refine ev_aload_n (M := T11_partner) (pc := 24) 0 dX11_partner_24 (k := ?_)
      obtain ⟨a2, ea2, H3⟩ := bd_e H2
      clear H2
      rw [ea2]
      refine ev_getI (M := T11_partner) (pc := 25) (x := q1.2.1 0 a2 9) fl_X11_210 dX11_partner_25 (K := ?_)
      refine ev_iconst (M := T11_partner) (pc := 28) dX11_partner_28 (k := ?_)
      refine ev_icmpeq (M := T11_partner) (pc := 29) 34 dX11_partner_29 (kt := fun hc => ?_) (kf := fun hc => ?_)
      · replace H3 := if_pe hc H3
        refine ev_aload_n (M := T11_partner) (pc := 34) 0 dX11_partner_34 (k := ?_)
        refine ev_getR (M := T11_partner) (pc := 35) (t := 4) (x := Option.map (Prod.mk 4) (q1.2.2.2 0 a2 1)) fl_X11_223 dX11_partner_35 (hx := ry_0_1 _ _) (K := ?_)
        refine ev_aload_n (M := T11_partner) (pc := 38) 1 dX11_partner_38 (k := ?_)
        refine ev_getR (M := T11_partner) (pc := 39) (t := 39) (x := some (39, 0)) fl_X11_17 dX11_partner_39 (hx := ry_11_3 _ _) (K := ?_)
        refine ev_iload_n (M := T11_partner) (pc := 42) 2 dX11_partner_42 (k := ?_)
        obtain ⟨⟨hi0, hi1⟩, H4⟩ := g_e H3
        clear H3
        refine ev_aaload (M := T11_partner) (pc := 43) (k := 39) 4 (x := some (4, l1)) hi0 hi1 dX11_partner_43 (hc := ac_39) (hlen := ln_39 _ _) (hx := rz_39 _ _ _) (K := ?_)
        refine ev_acmpeqK (M := T11_partner) (pc := 44) (q1.2.2.2 0 a2 1) (some l1) 59 dX11_partner_44 (kt := fun hc => ?_) (kf := fun hc => ?_)
        · replace H4 := if_pe hc H4
          refine ev_aload_n (M := T11_partner) (pc := 59) 0 dX11_partner_59 (k := ?_)
          refine ev_getI (M := T11_partner) (pc := 60) (x := q1.2.1 0 a2 6) fl_X11_234 dX11_partner_60 (K := ?_)
          refine ev_iconst (M := T11_partner) (pc := 63) dX11_partner_63 (k := ?_)
          refine ev_icmpeq (M := T11_partner) (pc := 64) 78 dX11_partner_64 (kt := fun hc => ?_) (kf := fun hc => ?_)
          · replace H4 := if_pe hc H4
            refine ev_aload_n (M := T11_partner) (pc := 78) 0 dX11_partner_78 (k := ?_)
            refine ev_getR (M := T11_partner) (pc := 79) (t := 4) (x := Option.map (Prod.mk 4) (q1.2.2.2 0 a2 3)) fl_X11_237 dX11_partner_79 (hx := ry_0_3 _ _) (K := ?_)
            refine ev_aload_n (M := T11_partner) (pc := 82) 0 dX11_partner_82 (k := ?_)
            refine ev_getR (M := T11_partner) (pc := 83) (t := 8) (x := Option.map (Prod.mk 8) (q1.2.2.2 0 a2 4)) fl_X11_240 dX11_partner_83 (hx := ry_0_4 _ _) (K := ?_)
            obtain ⟨q3, hq, H5⟩ := bd_e H4
            clear H4
            refine ev_callS (M := T11_partner) (pc := 86) (mc := 0) (ms := 0) (st := []) (C11_sideNumber hq) md_X11_sideNumber ss_X11_sideNumber ml_X11_230 dX11_partner_86 _ (by decide) (K := ?_)
            cases H5
            exact ev_ireturn (M := T11_partner) (pc := 89) dX11_partner_89
          · replace H4 := if_ne hc H4
            refine ev_sipush (M := T11_partner) (pc := 67) dX11_partner_67 (k := ?_)
            refine ev_aload_n (M := T11_partner) (pc := 70) 0 dX11_partner_70 (k := ?_)
            refine ev_getI (M := T11_partner) (pc := 71) (x := q1.2.1 0 a2 6) fl_X11_234 dX11_partner_71 (K := ?_)
            refine ev_iadd (M := T11_partner) (pc := 74) dX11_partner_74 (k := ?_)
            refine ev_goto (M := T11_partner) (pc := 75) 89 dX11_partner_75 (k := ?_)
            cases H4
            exact ev_ireturn (M := T11_partner) (pc := 89) dX11_partner_89
        · replace H4 := if_ne hc H4
          refine ev_aload_n (M := T11_partner) (pc := 47) 0 dX11_partner_47 (k := ?_)
          refine ev_getR (M := T11_partner) (pc := 48) (t := 4) (x := Option.map (Prod.mk 4) (q1.2.2.2 0 a2 1)) fl_X11_223 dX11_partner_48 (hx := ry_0_1 _ _) (K := ?_)
          refine ev_aload_n (M := T11_partner) (pc := 51) 0 dX11_partner_51 (k := ?_)
          refine ev_getR (M := T11_partner) (pc := 52) (t := 8) (x := Option.map (Prod.mk 8) (q1.2.2.2 0 a2 2)) fl_X11_227 dX11_partner_52 (hx := ry_0_2 _ _) (K := ?_)
          obtain ⟨q4, hq, H5⟩ := bd_e H4
          clear H4
          refine ev_callS (M := T11_partner) (pc := 55) (mc := 0) (ms := 0) (st := []) (C11_sideNumber hq) md_X11_sideNumber ss_X11_sideNumber ml_X11_230 dX11_partner_55 _ (by decide) (K := ?_)
          cases H5
          exact ev_ireturn (M := T11_partner) (pc := 58) dX11_partner_58
      · replace H3 := if_ne hc H3
        refine ev_lv [] [] (k := ?_)
        exact E11_partner_32 q1.2 _ H3
  · replace H1 := if_pe hc H1
    refine ev_bipush (M := T11_partner) (pc := 7) dX11_partner_7 (k := ?_)
    cases H1
    exact ev_ireturn (M := T11_partner) (pc := 9) dX11_partner_9
-- X11_plan
abbrev T11_plan : JT := (RX11, cX11_plan, 8, some .int, false)
set_option maxRecDepth 100000 in
set_option maxHeartbeats 4000000 in
theorem E11_plan_53 (h : JM) (res : (Int × JM)) (H : F11_plan_53 h = some res) : Ev j_W1 3 1 5 T11_plan 53 [] [] h (some (.inl res.1)) res.2 := by
  unfold F11_plan_53 at H
  refine ev_bipush (M := T11_plan) (pc := 53) dX11_plan_53 (k := ?_)
  cases H
  exact ev_ireturn (M := T11_plan) (pc := 55) dX11_plan_55
set_option maxRecDepth 100000 in
set_option maxHeartbeats 4000000 in
theorem C11_plan {l1 : Int} {l2 : Int} {l3 : Int} {l4 : Int} {l5 : Int} {h : JM} {res : (Int × JM)} (H : F11_plan l1 l2 l3 l4 l5 h = some res) : Cn j_W1 3 1 5 yX11_plan cX11_plan 8 (some .int) [.inr (.inr (some (11, 0))), .inl (l1), .inl (l2), .inl (l3), .inl (l4), .inl (l5)] h (some (.inl res.1)) res.2 := by
  refine Cn.by (own := RX11) (b := false) [(0, .inr (.inr (some (11, 0)))), (1, .inl (l1)), (2, .inl (l2)), (3, .inl (l3)), (4, .inl (l4)), (5, .inl (l5))] rfl (fun z => by cases z) (by decide +kernel) (K := ?_)
  unfold F11_plan at H
  refine ev_aload_n (M := T11_plan) (pc := 0) 0 dX11_plan_0 (k := ?_)
  refine ev_getL (M := T11_plan) (pc := 1) (x := h.2.1 11 0 9) fl_X11_51 dX11_plan_1 (K := ?_)
  obtain ⟨q1, hq, H1⟩ := bd_e H
  clear H
  refine ev_callS (M := T11_plan) (pc := 4) (mc := 1) (ms := 5) (st := []) (C11_countOf hq) md_X11_countOf ss_X11_countOf ml_X11_83 dX11_plan_4 _ (by decide) (K := ?_)
  refine ev_istore (M := T11_plan) (pc := 7) [(6, .inl (q1.1)), (0, .inr (.inr (some (11, 0)))), (1, .inl (l1)), (2, .inl (l2)), (3, .inl (l3)), (4, .inl (l4)), (5, .inl (l5))] dX11_plan_7 (k := ?_)
  refine ev_iload_n (M := T11_plan) (pc := 9) 2 dX11_plan_9 (k := ?_)
  obtain ⟨q2, hq, H2⟩ := bd_e H1
  clear H1
  refine ev_callS (M := T11_plan) (pc := 10) (mc := 1) (ms := 5) (st := []) (C11_isExchange hq) md_X11_isExchange ss_X11_isExchange ml_X11_91 dX11_plan_10 _ (by decide) (K := ?_)
  refine ev_ifeq (M := T11_plan) (pc := 13) 53 dX11_plan_13 (kt := fun hc => ?_) (kf := fun hc => ?_)
  · replace H2 := if_pe hc H2
    refine ev_lv [] [] (k := ?_)
    exact E11_plan_53 q2.2 _ H2
  · replace H2 := if_ne hc H2
    refine ev_iload (M := T11_plan) (pc := 16) 0 dX11_plan_16 (k := ?_)
    refine ev_ifeq (M := T11_plan) (pc := 18) 53 dX11_plan_18 (kt := fun hc => ?_) (kf := fun hc => ?_)
    · replace H2 := if_pe hc H2
      refine ev_lv [] [] (k := ?_)
      exact E11_plan_53 q2.2 _ H2
    · replace H2 := if_ne hc H2
      refine ev_iload_n (M := T11_plan) (pc := 21) 3 dX11_plan_21 (k := ?_)
      refine ev_iload (M := T11_plan) (pc := 22) 0 dX11_plan_22 (k := ?_)
      refine ev_bipush (M := T11_plan) (pc := 24) dX11_plan_24 (k := ?_)
      obtain ⟨q3, hq, H3⟩ := bd_e H2
      clear H2
      refine ev_callS (M := T11_plan) (pc := 26) (mc := 1) (ms := 5) (st := []) (C11_isWithin hq) md_X11_isWithin ss_X11_isWithin ml_X11_79 dX11_plan_26 _ (by decide) (K := ?_)
      refine ev_ifeq (M := T11_plan) (pc := 29) 53 dX11_plan_29 (kt := fun hc => ?_) (kf := fun hc => ?_)
      · replace H3 := if_pe hc H3
        refine ev_lv [] [] (k := ?_)
        exact E11_plan_53 q3.2 _ H3
      · replace H3 := if_ne hc H3
        refine ev_iload (M := T11_plan) (pc := 32) 6 dX11_plan_32 (k := ?_)
        refine ev_iconst (M := T11_plan) (pc := 34) dX11_plan_34 (k := ?_)
        refine ev_iconst (M := T11_plan) (pc := 35) dX11_plan_35 (k := ?_)
        obtain ⟨q4, hq, H4⟩ := bd_e H3
        clear H3
        refine ev_callS (M := T11_plan) (pc := 36) (mc := 1) (ms := 5) (st := []) (C11_isWithin hq) md_X11_isWithin ss_X11_isWithin ml_X11_79 dX11_plan_36 _ (by decide) (K := ?_)
        refine ev_ifeq (M := T11_plan) (pc := 39) 53 dX11_plan_39 (kt := fun hc => ?_) (kf := fun hc => ?_)
        · replace H4 := if_pe hc H4
          refine ev_lv [] [] (k := ?_)
          exact E11_plan_53 q4.2 _ H4
        · replace H4 := if_ne hc H4
          refine ev_iload_n (M := T11_plan) (pc := 42) 2 dX11_plan_42 (k := ?_)
          refine ev_iload_n (M := T11_plan) (pc := 43) 3 dX11_plan_43 (k := ?_)
          refine ev_iload_n (M := T11_plan) (pc := 44) 4 dX11_plan_44 (k := ?_)
          refine ev_iload (M := T11_plan) (pc := 45) 5 dX11_plan_45 (k := ?_)
          obtain ⟨q5, hq, H5⟩ := bd_e H4
          clear H4
          refine ev_callS (M := T11_plan) (pc := 47) (mc := 1) (ms := 5) (st := []) (C11_isArg hq) md_X11_isArg ss_X11_isArg ml_X11_95 dX11_plan_47 _ (by decide) (K := ?_)
          refine ev_ifne (M := T11_plan) (pc := 50) 56 dX11_plan_50 (kt := fun hc => ?_) (kf := fun hc => ?_)
          · replace H5 := if_ne hc H5
            refine ev_aload_n (M := T11_plan) (pc := 56) 1 dX11_plan_56 (k := ?_)
            refine ev_getR (M := T11_plan) (pc := 57) (t := 38) (x := some (38, 0)) fl_X11_11 dX11_plan_57 (hx := ry_11_2 _ _) (K := ?_)
            refine ev_iload_n (M := T11_plan) (pc := 60) 2 dX11_plan_60 (k := ?_)
            obtain ⟨⟨hi0, hi1⟩, H6⟩ := g_e H5
            clear H5
            refine ev_aaload (M := T11_plan) (pc := 61) (k := 38) 1 (x := some (1, l1)) hi0 hi1 dX11_plan_61 (hc := ac_38) (hlen := ln_38 _ _) (hx := rz_38 _ _ _) (K := ?_)
            refine ev_astore (M := T11_plan) (pc := 62) [(7, .inr (.inr (some (1, l1)))), (6, .inl (q1.1)), (0, .inr (.inr (some (11, 0)))), (1, .inl (l1)), (2, .inl (l2)), (3, .inl (l3)), (4, .inl (l4)), (5, .inl (l5))] dX11_plan_62 (k := ?_)
            refine ev_aload (M := T11_plan) (pc := 64) 0 dX11_plan_64 (k := ?_)
            refine ev_aload_n (M := T11_plan) (pc := 66) 2 dX11_plan_66 (k := ?_)
            refine ev_getL (M := T11_plan) (pc := 67) (x := q5.2.2.1 11 0 9) fl_X11_51 dX11_plan_67 (K := ?_)
            obtain ⟨q6, hq, H7⟩ := bd_e H6
            clear H6
            refine ev_callV (M := T11_plan) (pc := 70) (mc := 1) (ms := 5) (st := []) (C1_hasPrefix hq) md_X1_hasPrefix im_X1_hasPrefix se_X1_hasPrefix ml_X11_99 dX11_plan_70 _ (by decide) (K := ?_)
            refine ev_ifeq (M := T11_plan) (pc := 73) 79 dX11_plan_73 (kt := fun hc => ?_) (kf := fun hc => ?_)
            · replace H7 := if_pe hc H7
              refine ev_aload (M := T11_plan) (pc := 79) 0 dX11_plan_79 (k := ?_)
              refine ev_getI (M := T11_plan) (pc := 81) (x := q6.2.1 1 l1 4) fl_X11_103 dX11_plan_81 (K := ?_)
              refine ev_bipush (M := T11_plan) (pc := 84) dX11_plan_84 (k := ?_)
              refine ev_icmplt (M := T11_plan) (pc := 86) 92 dX11_plan_86 (kt := fun hc => ?_) (kf := fun hc => ?_)
              · replace H7 := if_pe hc H7
                refine ev_aload (M := T11_plan) (pc := 92) 0 dX11_plan_92 (k := ?_)
                refine ev_getR (M := T11_plan) (pc := 94) (t := 22) (x := some (22, l1)) fl_X11_106 dX11_plan_94 (hx := ry_1_3 _ _) (K := ?_)
                refine ev_aload (M := T11_plan) (pc := 97) 0 dX11_plan_97 (k := ?_)
                refine ev_getI (M := T11_plan) (pc := 99) (x := q6.2.1 1 l1 4) fl_X11_103 dX11_plan_99 (K := ?_)
                obtain ⟨hn, H8⟩ := g_e H7
                clear H7
                obtain ⟨h7, eh7, H9⟩ := lt_e H8
                clear H8
                refine ev_new (M := T11_plan) (pc := 102) (k := 6) (mc := 0) (ms := 0) (24 * l1 + (q6.2.1 1 l1 4)) (j_wn6 hn) eh7 ck_X11_110 it_6 in_6 dX11_plan_102 (K := ?_)
                refine ev_dup (M := T11_plan) (pc := 105) dX11_plan_105 (k := ?_)
                refine ev_aload_n (M := T11_plan) (pc := 106) 2 dX11_plan_106 (k := ?_)
                refine ev_getL (M := T11_plan) (pc := 107) (x := h7.2.1 11 0 9) fl_X11_51 dX11_plan_107 (K := ?_)
                refine ev_iload_n (M := T11_plan) (pc := 110) 4 dX11_plan_110 (k := ?_)
                refine ev_iload_n (M := T11_plan) (pc := 111) 5 dX11_plan_111 (k := ?_)
                refine ev_iload (M := T11_plan) (pc := 112) 6 dX11_plan_112 (k := ?_)
                refine ev_iload (M := T11_plan) (pc := 114) 7 dX11_plan_114 (k := ?_)
                obtain ⟨h8, hq, H10⟩ := bd_e H9
                clear H9
                refine ev_callI (M := T11_plan) (pc := 116) (mc := 0) (ms := 0) (st := [.inr (.inr (some (6, (24 * l1 + (q6.2.1 1 l1 4))))), .inl (q6.2.1 1 l1 4), .inr (.inr (some (22, l1)))]) (C6_init hq) md_X6_init im_X6_init rfl ml_X11_112 dX11_plan_116 _ (by decide) (K := ?_)
                obtain ⟨⟨hi0, hi1⟩, H11⟩ := g_e H10
                clear H10
                obtain ⟨h9, eh9, H12⟩ := lt_e H11
                clear H11
                refine ev_aastore (M := T11_plan) (pc := 119) (k := 22) j_ok1 6 (some (24 * l1 + (q6.2.1 1 l1 4))) hi0 hi1 eh9 dX11_plan_119 (hly := rm_22 _ _) (hc := ac_22) (hlen := ln_22 _ _) (K := ?_)
                refine ev_aload (M := T11_plan) (pc := 120) 0 dX11_plan_120 (k := ?_)
                refine ev_dup (M := T11_plan) (pc := 122) dX11_plan_122 (k := ?_)
                refine ev_getI (M := T11_plan) (pc := 123) (x := h9.1 1 l1 4) fl_X11_103 dX11_plan_123 (K := ?_)
                refine ev_iconst (M := T11_plan) (pc := 126) dX11_plan_126 (k := ?_)
                refine ev_iadd (M := T11_plan) (pc := 127) dX11_plan_127 (k := ?_)
                obtain ⟨h10, eh10, H13⟩ := lt_e H12
                clear H12
                refine ev_putI (M := T11_plan) (pc := 128) j_ok1 fl_X11_103 eh10 dX11_plan_128 (K := ?_)
                refine ev_aload_n (M := T11_plan) (pc := 131) 2 dX11_plan_131 (k := ?_)
                refine ev_lconst (M := T11_plan) (pc := 132) (v := 0) dX11_plan_132 (k := ?_)
                obtain ⟨h11, eh11, H14⟩ := lt_e H13
                clear H13
                refine ev_putL (M := T11_plan) (pc := 133) j_ok1 fl_X11_51 eh11 dX11_plan_133 (K := ?_)
                refine ev_aload (M := T11_plan) (pc := 136) 0 dX11_plan_136 (k := ?_)
                refine ev_getI (M := T11_plan) (pc := 138) (x := h11.1 1 l1 4) fl_X11_103 dX11_plan_138 (K := ?_)
                refine ev_iconst (M := T11_plan) (pc := 141) dX11_plan_141 (k := ?_)
                refine ev_isub (M := T11_plan) (pc := 142) dX11_plan_142 (k := ?_)
                cases H14
                exact ev_ireturn (M := T11_plan) (pc := 143) dX11_plan_143
              · replace H7 := if_ne hc H7
                refine ev_bipush (M := T11_plan) (pc := 89) dX11_plan_89 (k := ?_)
                cases H7
                exact ev_ireturn (M := T11_plan) (pc := 91) dX11_plan_91
            · replace H7 := if_ne hc H7
              refine ev_bipush (M := T11_plan) (pc := 76) dX11_plan_76 (k := ?_)
              cases H7
              exact ev_ireturn (M := T11_plan) (pc := 78) dX11_plan_78
          · replace H5 := if_pe hc H5
            refine ev_lv [] [] (k := ?_)
            exact E11_plan_53 q5.2 _ H5
-- X11_record
abbrev T11_record : JT := (RX11, cX11_record, 3, some .int, false)
set_option maxRecDepth 100000 in
set_option maxHeartbeats 4000000 in
theorem C11_record {l1 : Int} {l2 : Int} {h : JM} {res : (Int × JM)} (H : F11_record l1 l2 h = some res) : Cn j_W1 2 0 0 yX11_record cX11_record 3 (some .int) [.inr (.inr (some (11, 0))), .inl (l1), .inl (l2)] h (some (.inl res.1)) res.2 := by
  refine Cn.by (own := RX11) (b := false) [(0, .inr (.inr (some (11, 0)))), (1, .inl (l1)), (2, .inl (l2))] rfl (fun z => by cases z) (by decide +kernel) (K := ?_)
  unfold F11_record at H
  refine ev_iload_n (M := T11_record) (pc := 0) 2 dX11_record_0 (k := ?_)
  refine ev_iconst (M := T11_record) (pc := 1) dX11_record_1 (k := ?_)
  refine ev_iconst (M := T11_record) (pc := 2) dX11_record_2 (k := ?_)
  obtain ⟨q1, hq, H1⟩ := bd_e H
  clear H
  refine ev_callS (M := T11_record) (pc := 3) (mc := 0) (ms := 0) (st := []) (C11_isWithin hq) md_X11_isWithin ss_X11_isWithin ml_X11_79 dX11_record_3 _ (by decide) (K := ?_)
  refine ev_ifne (M := T11_record) (pc := 6) 12 dX11_record_6 (kt := fun hc => ?_) (kf := fun hc => ?_)
  · replace H1 := if_ne hc H1
    refine ev_aload_n (M := T11_record) (pc := 12) 0 dX11_record_12 (k := ?_)
    refine ev_getR (M := T11_record) (pc := 13) (t := 3) (x := some (3, 0)) fl_X11_30 dX11_record_13 (hx := ry_11_5 _ _) (K := ?_)
    refine ev_iload_n (M := T11_record) (pc := 16) 1 dX11_record_16 (k := ?_)
    refine ev_iload_n (M := T11_record) (pc := 17) 2 dX11_record_17 (k := ?_)
    obtain ⟨q2, hq, H2⟩ := bd_e H1
    clear H1
    refine ev_callV (M := T11_record) (pc := 18) (mc := 0) (ms := 0) (st := []) (C3_read hq) md_X3_read im_X3_read se_X3_read ml_X11_302 dX11_record_18 _ (by decide) (K := ?_)
    cases H2
    exact ev_ireturn (M := T11_record) (pc := 21) dX11_record_21
  · replace H1 := if_pe hc H1
    refine ev_bipush (M := T11_record) (pc := 9) dX11_record_9 (k := ?_)
    cases H1
    exact ev_ireturn (M := T11_record) (pc := 11) dX11_record_11
-- X11_room
abbrev T11_room : JT := (RX11, cX11_room, 3, some .int, false)
set_option maxRecDepth 100000 in
set_option maxHeartbeats 4000000 in
theorem E11_room_16 (h : JM) (res : (Int × JM)) (H : F11_room_16 h = some res) : Ev j_W1 2 0 0 T11_room 16 [] [] h (some (.inl res.1)) res.2 := by
  unfold F11_room_16 at H
  refine ev_bipush (M := T11_room) (pc := 16) dX11_room_16 (k := ?_)
  cases H
  exact ev_ireturn (M := T11_room) (pc := 18) dX11_room_18
set_option maxRecDepth 100000 in
set_option maxHeartbeats 4000000 in
theorem C11_room {l1 : Int} {l2 : Int} {h : JM} {res : (Int × JM)} (H : F11_room l1 l2 h = some res) : Cn j_W1 2 0 0 yX11_room cX11_room 3 (some .int) [.inr (.inr (some (11, 0))), .inl (l1), .inl (l2)] h (some (.inl res.1)) res.2 := by
  refine Cn.by (own := RX11) (b := false) [(0, .inr (.inr (some (11, 0)))), (1, .inl (l1)), (2, .inl (l2))] rfl (fun z => by cases z) (by decide +kernel) (K := ?_)
  unfold F11_room at H
  refine ev_iload_n (M := T11_room) (pc := 0) 1 dX11_room_0 (k := ?_)
  obtain ⟨q1, hq, H1⟩ := bd_e H
  clear H
  refine ev_callS (M := T11_room) (pc := 1) (mc := 0) (ms := 0) (st := []) (C11_isExchange hq) md_X11_isExchange ss_X11_isExchange ml_X11_91 dX11_room_1 _ (by decide) (K := ?_)
  refine ev_ifeq (M := T11_room) (pc := 4) 16 dX11_room_4 (kt := fun hc => ?_) (kf := fun hc => ?_)
  · replace H1 := if_pe hc H1
    refine ev_lv [] [] (k := ?_)
    exact E11_room_16 q1.2 _ H1
  · replace H1 := if_ne hc H1
    refine ev_iload_n (M := T11_room) (pc := 7) 2 dX11_room_7 (k := ?_)
    refine ev_iconst (M := T11_room) (pc := 8) dX11_room_8 (k := ?_)
    refine ev_iconst (M := T11_room) (pc := 9) dX11_room_9 (k := ?_)
    obtain ⟨q2, hq, H2⟩ := bd_e H1
    clear H1
    refine ev_callS (M := T11_room) (pc := 10) (mc := 0) (ms := 0) (st := []) (C11_isWithin hq) md_X11_isWithin ss_X11_isWithin ml_X11_79 dX11_room_10 _ (by decide) (K := ?_)
    refine ev_ifne (M := T11_room) (pc := 13) 19 dX11_room_13 (kt := fun hc => ?_) (kf := fun hc => ?_)
    · replace H2 := if_ne hc H2
      refine ev_aload_n (M := T11_room) (pc := 19) 0 dX11_room_19 (k := ?_)
      refine ev_getR (M := T11_room) (pc := 20) (t := 38) (x := some (38, 0)) fl_X11_11 dX11_room_20 (hx := ry_11_2 _ _) (K := ?_)
      refine ev_iload_n (M := T11_room) (pc := 23) 1 dX11_room_23 (k := ?_)
      obtain ⟨⟨hi0, hi1⟩, H3⟩ := g_e H2
      clear H2
      refine ev_aaload (M := T11_room) (pc := 24) (k := 38) 1 (x := some (1, l1)) hi0 hi1 dX11_room_24 (hc := ac_38) (hlen := ln_38 _ _) (hx := rz_38 _ _ _) (K := ?_)
      refine ev_getR (M := T11_room) (pc := 25) (t := 23) (x := some (23, l1)) fl_X11_257 dX11_room_25 (hx := ry_1_5 _ _) (K := ?_)
      refine ev_iload_n (M := T11_room) (pc := 28) 2 dX11_room_28 (k := ?_)
      obtain ⟨⟨hi0, hi1⟩, H4⟩ := g_e H3
      clear H3
      refine ev_iaload (M := T11_room) (pc := 29) (k := 23) hi0 hi1 dX11_room_29 (hc := ac_23) (hlen := ln_23 _ _) (K := ?_)
      cases H4
      exact ev_ireturn (M := T11_room) (pc := 30) dX11_room_30
    · replace H2 := if_pe hc H2
      refine ev_lv [] [] (k := ?_)
      exact E11_room_16 q2.2 _ H2
-- X11_say
abbrev T11_say : JT := (RX11, cX11_say, 4, some .int, false)
set_option maxRecDepth 100000 in
set_option maxHeartbeats 4000000 in
theorem E11_say_20 (h : JM) (res : (Int × JM)) (H : F11_say_20 h = some res) : Ev j_W1 2 0 0 T11_say 20 [] [] h (some (.inl res.1)) res.2 := by
  unfold F11_say_20 at H
  refine ev_bipush (M := T11_say) (pc := 20) dX11_say_20 (k := ?_)
  cases H
  exact ev_ireturn (M := T11_say) (pc := 22) dX11_say_22
set_option maxRecDepth 100000 in
set_option maxHeartbeats 4000000 in
theorem C11_say {l1 : Int} {l2 : Int} {h : JM} {res : (Int × JM)} (H : F11_say l1 l2 h = some res) : Cn j_W1 2 0 0 yX11_say cX11_say 4 (some .int) [.inr (.inr (some (11, 0))), .inl (l1), .inl (l2)] h (some (.inl res.1)) res.2 := by
  refine Cn.by (own := RX11) (b := false) [(0, .inr (.inr (some (11, 0)))), (1, .inl (l1)), (2, .inl (l2))] rfl (fun z => by cases z) (by decide +kernel) (K := ?_)
  unfold F11_say at H
  refine ev_iload_n (M := T11_say) (pc := 0) 1 dX11_say_0 (k := ?_)
  obtain ⟨q1, hq, H1⟩ := bd_e H
  clear H
  refine ev_callS (M := T11_say) (pc := 1) (mc := 0) (ms := 0) (st := []) (C11_isLine hq) md_X11_isLine ss_X11_isLine ml_X11_115 dX11_say_1 _ (by decide) (K := ?_)
  refine ev_ifeq (M := T11_say) (pc := 4) 20 dX11_say_4 (kt := fun hc => ?_) (kf := fun hc => ?_)
  · replace H1 := if_pe hc H1
    refine ev_lv [] [] (k := ?_)
    exact E11_say_20 q1.2 _ H1
  · replace H1 := if_ne hc H1
    refine ev_iload_n (M := T11_say) (pc := 7) 2 dX11_say_7 (k := ?_)
    refine ev_sipush (M := T11_say) (pc := 8) dX11_say_8 (k := ?_)
    refine ev_sipush (M := T11_say) (pc := 11) dX11_say_11 (k := ?_)
    obtain ⟨q2, hq, H2⟩ := bd_e H1
    clear H1
    refine ev_callS (M := T11_say) (pc := 14) (mc := 0) (ms := 0) (st := []) (C11_isWithin hq) md_X11_isWithin ss_X11_isWithin ml_X11_79 dX11_say_14 _ (by decide) (K := ?_)
    refine ev_ifne (M := T11_say) (pc := 17) 23 dX11_say_17 (kt := fun hc => ?_) (kf := fun hc => ?_)
    · replace H2 := if_ne hc H2
      refine ev_aload_n (M := T11_say) (pc := 23) 0 dX11_say_23 (k := ?_)
      refine ev_getR (M := T11_say) (pc := 24) (t := 39) (x := some (39, 0)) fl_X11_17 dX11_say_24 (hx := ry_11_3 _ _) (K := ?_)
      refine ev_iload_n (M := T11_say) (pc := 27) 1 dX11_say_27 (k := ?_)
      obtain ⟨⟨hi0, hi1⟩, H3⟩ := g_e H2
      clear H2
      refine ev_aaload (M := T11_say) (pc := 28) (k := 39) 4 (x := some (4, l1)) hi0 hi1 dX11_say_28 (hc := ac_39) (hlen := ln_39 _ _) (hx := rz_39 _ _ _) (K := ?_)
      refine ev_getI (M := T11_say) (pc := 29) (x := q2.2.1 4 l1 18) fl_X11_167 dX11_say_29 (K := ?_)
      obtain ⟨x3, ex3, H4⟩ := lt_e H3
      clear H3
      refine ev_topI ex3 ?_
      refine ev_istore_n (M := T11_say) (pc := 32) [(3, .inl (x3)), (0, .inr (.inr (some (11, 0)))), (1, .inl (l1)), (2, .inl (l2))] dX11_say_32 (k := ?_)
      refine ev_aload_n (M := T11_say) (pc := 33) 1 dX11_say_33 (k := ?_)
      refine ev_getR (M := T11_say) (pc := 34) (t := 39) (x := some (39, 0)) fl_X11_17 dX11_say_34 (hx := ry_11_3 _ _) (K := ?_)
      refine ev_iload_n (M := T11_say) (pc := 37) 2 dX11_say_37 (k := ?_)
      obtain ⟨⟨hi0, hi1⟩, H5⟩ := g_e H4
      clear H4
      refine ev_aaload (M := T11_say) (pc := 38) (k := 39) 4 (x := some (4, l1)) hi0 hi1 dX11_say_38 (hc := ac_39) (hlen := ln_39 _ _) (hx := rz_39 _ _ _) (K := ?_)
      refine ev_iload_n (M := T11_say) (pc := 39) 3 dX11_say_39 (k := ?_)
      obtain ⟨h4, eh4, H6⟩ := lt_e H5
      clear H5
      refine ev_putI (M := T11_say) (pc := 40) j_ok1 fl_X11_167 eh4 dX11_say_40 (K := ?_)
      refine ev_iload_n (M := T11_say) (pc := 43) 0 dX11_say_43 (k := ?_)
      cases H6
      exact ev_ireturn (M := T11_say) (pc := 44) dX11_say_44
    · replace H2 := if_pe hc H2
      refine ev_lv [] [] (k := ?_)
      exact E11_say_20 q2.2 _ H2
