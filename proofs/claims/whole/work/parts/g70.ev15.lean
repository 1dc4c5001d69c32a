-- X11_tick
abbrev T11_tick : JT := (RX11, cX11_tick, 3, some .int, false)
set_option maxRecDepth 100000 in
set_option maxHeartbeats 4000000 in
theorem E11_tick_30b (k30 : Int → Int → JM → Option (Int × JM)) (hk30 : ∀ (l1 : Int) (l2 : Int) (h : JM) (res : (Int × JM)), k30 l1 l2 h = some res → Ev j_W1 7 0 0 T11_tick 30 [(0, .inr (.inr (some (11, 0)))), (1, .inl (l1)), (2, .inl (l2))] [] h (some (.inl res.1)) res.2) (l1 : Int) (l2 : Int) (h : JM) (res : (Int × JM)) (H : F11_tick_30b k30 l1 l2 h = some res) : Ev j_W1 7 0 0 T11_tick 30 [(0, .inr (.inr (some (11, 0)))), (1, .inl (l1)), (2, .inl (l2))] [] h (some (.inl res.1)) res.2 := by
  unfold F11_tick_30b at H
  refine ev_iload_n (M := T11_tick) (pc := 30) 2 dX11_tick_30 (k := ?_)
  refine ev_iload_n (M := T11_tick) (pc := 31) 1 dX11_tick_31 (k := ?_)
  refine ev_icmpge (M := T11_tick) (pc := 32) 79 dX11_tick_32 (kt := fun hc => ?_) (kf := fun hc => ?_)
  · replace H := if_pe hc H
    refine ev_aload_n (M := T11_tick) (pc := 79) 0 dX11_tick_79 (k := ?_)
    refine ev_getI (M := T11_tick) (pc := 80) (x := h.1 11 0 10) fl_X11_177 dX11_tick_80 (K := ?_)
    cases H
    exact ev_ireturn (M := T11_tick) (pc := 83) dX11_tick_83
  · replace H := if_ne hc H
    refine ev_aload_n (M := T11_tick) (pc := 35) 0 dX11_tick_35 (k := ?_)
    obtain ⟨h1, hq, H1⟩ := bd_e H
    clear H
    refine ev_callV (M := T11_tick) (pc := 36) (mc := 0) (ms := 0) (st := []) (C11_takeUnits hq) md_X11_takeUnits im_X11_takeUnits se_X11_takeUnits ml_X11_181 dX11_tick_36 _ (by decide) (K := ?_)
    refine ev_aload_n (M := T11_tick) (pc := 39) 0 dX11_tick_39 (k := ?_)
    obtain ⟨h2, hq, H2⟩ := bd_e H1
    clear H1
    refine ev_callV (M := T11_tick) (pc := 40) (mc := 0) (ms := 0) (st := []) (C11_watchLines hq) md_X11_watchLines im_X11_watchLines se_X11_watchLines ml_X11_184 dX11_tick_40 _ (by decide) (K := ?_)
    refine ev_aload_n (M := T11_tick) (pc := 43) 0 dX11_tick_43 (k := ?_)
    obtain ⟨h3, hq, H3⟩ := bd_e H2
    clear H2
    refine ev_callV (M := T11_tick) (pc := 44) (mc := 0) (ms := 0) (st := []) (C11_checkTimes hq) md_X11_checkTimes im_X11_checkTimes se_X11_checkTimes ml_X11_187 dX11_tick_44 _ (by decide) (K := ?_)
    refine ev_aload_n (M := T11_tick) (pc := 47) 0 dX11_tick_47 (k := ?_)
    obtain ⟨h4, hq, H4⟩ := bd_e H3
    clear H3
    refine ev_callV (M := T11_tick) (pc := 48) (mc := 0) (ms := 0) (st := []) (C11_serveGroups hq) md_X11_serveGroups im_X11_serveGroups se_X11_serveGroups ml_X11_190 dX11_tick_48 _ (by decide) (K := ?_)
    refine ev_aload_n (M := T11_tick) (pc := 51) 0 dX11_tick_51 (k := ?_)
    obtain ⟨h5, hq, H5⟩ := bd_e H4
    clear H4
    refine ev_callV (M := T11_tick) (pc := 52) (mc := 0) (ms := 0) (st := []) (C11_carrySpeech hq) md_X11_carrySpeech im_X11_carrySpeech se_X11_carrySpeech ml_X11_193 dX11_tick_52 _ (by decide) (K := ?_)
    refine ev_aload_n (M := T11_tick) (pc := 55) 0 dX11_tick_55 (k := ?_)
    obtain ⟨h6, hq, H6⟩ := bd_e H5
    clear H5
    refine ev_callV (M := T11_tick) (pc := 56) (mc := 0) (ms := 0) (st := []) (C11_sendUnits hq) md_X11_sendUnits im_X11_sendUnits se_X11_sendUnits ml_X11_196 dX11_tick_56 _ (by decide) (K := ?_)
    refine ev_aload_n (M := T11_tick) (pc := 59) 0 dX11_tick_59 (k := ?_)
    obtain ⟨h7, hq, H7⟩ := bd_e H6
    clear H6
    refine ev_callV (M := T11_tick) (pc := 60) (mc := 0) (ms := 0) (st := []) (C11_sweepCalls hq) md_X11_sweepCalls im_X11_sweepCalls se_X11_sweepCalls ml_X11_199 dX11_tick_60 _ (by decide) (K := ?_)
    refine ev_aload_n (M := T11_tick) (pc := 63) 0 dX11_tick_63 (k := ?_)
    refine ev_dup (M := T11_tick) (pc := 64) dX11_tick_64 (k := ?_)
    refine ev_getI (M := T11_tick) (pc := 65) (x := h7.1 11 0 10) fl_X11_177 dX11_tick_65 (K := ?_)
    refine ev_iconst (M := T11_tick) (pc := 68) dX11_tick_68 (k := ?_)
    refine ev_iadd (M := T11_tick) (pc := 69) dX11_tick_69 (k := ?_)
    obtain ⟨h8, eh8, H8⟩ := lt_e H7
    clear H7
    refine ev_putI (M := T11_tick) (pc := 70) j_ok1 fl_X11_177 eh8 dX11_tick_70 (K := ?_)
    refine ev_iinc (M := T11_tick) (pc := 73) 2 [(2, .inl (w32 (l2 + 1))), (0, .inr (.inr (some (11, 0)))), (1, .inl (l1))] dX11_tick_73 (k := ?_)
    refine ev_goto (M := T11_tick) (pc := 76) 30 dX11_tick_76 (k := ?_)
    refine ev_lv [1, 2, 0] [(0, .inr (.inr (some (11, 0)))), (1, .inl (l1)), (2, .inl (w32 (l2 + 1)))] (k := ?_)
    exact hk30 l1 (w32 (l2 + 1)) h8 _ H8
theorem E11_tick_30 (n : Nat) : ∀ (l1 : Int) (l2 : Int) (h : JM) (res : (Int × JM)), F11_tick_30 n l1 l2 h = some res → Ev j_W1 7 0 0 T11_tick 30 [(0, .inr (.inr (some (11, 0)))), (1, .inl (l1)), (2, .inl (l2))] [] h (some (.inl res.1)) res.2 := by
  induction n with
  | zero =>
    intro l1 l2 h res H
    cases H
  | succ n ih =>
    intro l1 l2 h res H
    exact E11_tick_30b (F11_tick_30 n) ih l1 l2 h res H
set_option maxRecDepth 100000 in
set_option maxHeartbeats 4000000 in
theorem C11_tick {l1 : Int} {h : JM} {res : (Int × JM)} (H : F11_tick l1 h = some res) : Cn j_W1 7 0 0 yX11_tick cX11_tick 3 (some .int) [.inr (.inr (some (11, 0))), .inl (l1)] h (some (.inl res.1)) res.2 := by
  refine Cn.by (own := RX11) (b := false) [(0, .inr (.inr (some (11, 0)))), (1, .inl (l1))] rfl (fun z => by cases z) (by decide +kernel) (K := ?_)
  unfold F11_tick at H
  refine ev_iload_n (M := T11_tick) (pc := 0) 1 dX11_tick_0 (k := ?_)
  refine ev_iconst (M := T11_tick) (pc := 1) dX11_tick_1 (k := ?_)
  refine ev_sipush (M := T11_tick) (pc := 2) dX11_tick_2 (k := ?_)
  obtain ⟨q9, hq, H1⟩ := bd_e H
  clear H
  refine ev_callS (M := T11_tick) (pc := 5) (mc := 0) (ms := 0) (st := []) (C11_isWithin hq) md_X11_isWithin ss_X11_isWithin ml_X11_79 dX11_tick_5 _ (by decide) (K := ?_)
  refine ev_ifne (M := T11_tick) (pc := 8) 14 dX11_tick_8 (kt := fun hc => ?_) (kf := fun hc => ?_)
  · replace H1 := if_ne hc H1
    refine ev_aload_n (M := T11_tick) (pc := 14) 0 dX11_tick_14 (k := ?_)
    refine ev_getI (M := T11_tick) (pc := 15) (x := q9.2.1 11 0 10) fl_X11_177 dX11_tick_15 (K := ?_)
    refine ev_ldc (M := T11_tick) (pc := 18) (n := 10000000) ct_X11_180 dX11_tick_18 (hv := cv_X11_180) (k := ?_)
    refine ev_iload_n (M := T11_tick) (pc := 20) 1 dX11_tick_20 (k := ?_)
    refine ev_isub (M := T11_tick) (pc := 21) dX11_tick_21 (k := ?_)
    refine ev_icmple (M := T11_tick) (pc := 22) 28 dX11_tick_22 (kt := fun hc => ?_) (kf := fun hc => ?_)
    · replace H1 := if_pe hc H1
      refine ev_iconst (M := T11_tick) (pc := 28) dX11_tick_28 (k := ?_)
      refine ev_istore_n (M := T11_tick) (pc := 29) [(2, .inl (0)), (0, .inr (.inr (some (11, 0)))), (1, .inl (l1))] dX11_tick_29 (k := ?_)
      refine ev_lv [1, 2, 0] [(0, .inr (.inr (some (11, 0)))), (1, .inl (l1)), (2, .inl (0))] (k := ?_)
      exact E11_tick_30 j_fu l1 0 q9.2 _ H1
    · replace H1 := if_ne hc H1
      refine ev_bipush (M := T11_tick) (pc := 25) dX11_tick_25 (k := ?_)
      cases H1
      exact ev_ireturn (M := T11_tick) (pc := 27) dX11_tick_27
  · replace H1 := if_pe hc H1
    refine ev_bipush (M := T11_tick) (pc := 11) dX11_tick_11 (k := ?_)
    cases H1
    exact ev_ireturn (M := T11_tick) (pc := 13) dX11_tick_13
-- X11_told
abbrev T11_told : JT := (RX11, cX11_told, 2, some .int, false)
set_option maxRecDepth 100000 in
set_option maxHeartbeats 4000000 in
theorem C11_told {l1 : Int} {h : JM} {res : (Int × JM)} (H : F11_told l1 h = some res) : Cn j_W1 2 0 0 yX11_told cX11_told 2 (some .int) [.inr (.inr (some (11, 0))), .inl (l1)] h (some (.inl res.1)) res.2 := by
  refine Cn.by (own := RX11) (b := false) [(0, .inr (.inr (some (11, 0)))), (1, .inl (l1))] rfl (fun z => by cases z) (by decide +kernel) (K := ?_)
  unfold F11_told at H
  refine ev_iload_n (M := T11_told) (pc := 0) 1 dX11_told_0 (k := ?_)
  by_cases hs0 : l1 = 0
  · replace H := if_pe hs0 H
    refine ev_tableIn (M := T11_told) (pc := 1) (off := 35) 36 dX11_told_1 (by omega) (by omega) (by rw [hs0]; rfl) (k := ?_)
    refine ev_aload_n (M := T11_told) (pc := 36) 0 dX11_told_36 (k := ?_)
    refine ev_getI (M := T11_told) (pc := 37) (x := h.1 11 0 10) fl_X11_177 dX11_told_37 (K := ?_)
    cases H
    exact ev_ireturn (M := T11_told) (pc := 40) dX11_told_40
  · replace H := if_ne hs0 H
    by_cases hs1 : l1 = 1
    · replace H := if_pe hs1 H
      refine ev_tableIn (M := T11_told) (pc := 1) (off := 40) 41 dX11_told_1 (by omega) (by omega) (by rw [hs1]; rfl) (k := ?_)
      refine ev_aload_n (M := T11_told) (pc := 41) 0 dX11_told_41 (k := ?_)
      refine ev_getI (M := T11_told) (pc := 42) (x := h.1 11 0 12) fl_X11_306 dX11_told_42 (K := ?_)
      cases H
      exact ev_ireturn (M := T11_told) (pc := 45) dX11_told_45
    · replace H := if_ne hs1 H
      by_cases hs2 : l1 = 2
      · replace H := if_pe hs2 H
        refine ev_tableIn (M := T11_told) (pc := 1) (off := 45) 46 dX11_told_1 (by omega) (by omega) (by rw [hs2]; rfl) (k := ?_)
        refine ev_aload_n (M := T11_told) (pc := 46) 0 dX11_told_46 (k := ?_)
        refine ev_getI (M := T11_told) (pc := 47) (x := h.1 11 0 13) fl_X11_309 dX11_told_47 (K := ?_)
        cases H
        exact ev_ireturn (M := T11_told) (pc := 50) dX11_told_50
      · replace H := if_ne hs2 H
        by_cases hs3 : l1 = 3
        · replace H := if_pe hs3 H
          refine ev_tableIn (M := T11_told) (pc := 1) (off := 50) 51 dX11_told_1 (by omega) (by omega) (by rw [hs3]; rfl) (k := ?_)
          refine ev_aload_n (M := T11_told) (pc := 51) 0 dX11_told_51 (k := ?_)
          refine ev_getR (M := T11_told) (pc := 52) (t := 3) (x := some (3, 0)) fl_X11_30 dX11_told_52 (hx := ry_11_5 _ _) (K := ?_)
          refine ev_getI (M := T11_told) (pc := 55) (x := h.1 3 0 2) fl_X11_312 dX11_told_55 (K := ?_)
          cases H
          exact ev_ireturn (M := T11_told) (pc := 58) dX11_told_58
        · replace H := if_ne hs3 H
          by_cases hs4 : l1 = 4
          · replace H := if_pe hs4 H
            refine ev_tableIn (M := T11_told) (pc := 1) (off := 58) 59 dX11_told_1 (by omega) (by omega) (by rw [hs4]; rfl) (k := ?_)
            refine ev_aload_n (M := T11_told) (pc := 59) 0 dX11_told_59 (k := ?_)
            obtain ⟨q1, hq, H1⟩ := bd_e H
            clear H
            refine ev_callV (M := T11_told) (pc := 60) (mc := 0) (ms := 0) (st := []) (C11_idleAtBothEnds hq) md_X11_idleAtBothEnds im_X11_idleAtBothEnds se_X11_idleAtBothEnds ml_X11_313 dX11_told_60 _ (by decide) (K := ?_)
            cases H1
            exact ev_ireturn (M := T11_told) (pc := 63) dX11_told_63
          · replace H := if_ne hs4 H
            refine ev_tableOut (M := T11_told) (pc := 1) 64 dX11_told_1 (by omega) (k := ?_)
            refine ev_bipush (M := T11_told) (pc := 64) dX11_told_64 (k := ?_)
            cases H
            exact ev_ireturn (M := T11_told) (pc := 66) dX11_told_66
-- X11_waiting
abbrev T11_waiting : JT := (RX11, cX11_waiting, 6, some .int, false)
set_option maxRecDepth 100000 in
set_option maxHeartbeats 4000000 in
theorem E11_waiting_26 (h : JM) (res : (Int × JM)) (H : F11_waiting_26 h = some res) : Ev j_W1 2 0 0 T11_waiting 26 [] [] h (some (.inl res.1)) res.2 := by
  unfold F11_waiting_26 at H
  refine ev_bipush (M := T11_waiting) (pc := 26) dX11_waiting_26 (k := ?_)
  cases H
  exact ev_ireturn (M := T11_waiting) (pc := 28) dX11_waiting_28
set_option maxRecDepth 100000 in
set_option maxHeartbeats 4000000 in
theorem C11_waiting {l1 : Int} {l2 : Int} {l3 : Int} {h : JM} {res : (Int × JM)} (H : F11_waiting l1 l2 l3 h = some res) : Cn j_W1 2 0 0 yX11_waiting cX11_waiting 6 (some .int) [.inr (.inr (some (11, 0))), .inl (l1), .inl (l2), .inl (l3)] h (some (.inl res.1)) res.2 := by
  refine Cn.by (own := RX11) (b := false) [(0, .inr (.inr (some (11, 0)))), (1, .inl (l1)), (2, .inl (l2)), (3, .inl (l3))] rfl (fun z => by cases z) (by decide +kernel) (K := ?_)
  unfold F11_waiting at H
  refine ev_iload_n (M := T11_waiting) (pc := 0) 1 dX11_waiting_0 (k := ?_)
  obtain ⟨q1, hq, H1⟩ := bd_e H
  clear H
  refine ev_callS (M := T11_waiting) (pc := 1) (mc := 0) (ms := 0) (st := []) (C11_isExchange hq) md_X11_isExchange ss_X11_isExchange ml_X11_91 dX11_waiting_1 _ (by decide) (K := ?_)
  refine ev_ifeq (M := T11_waiting) (pc := 4) 26 dX11_waiting_4 (kt := fun hc => ?_) (kf := fun hc => ?_)
  · replace H1 := if_pe hc H1
    refine ev_lv [] [] (k := ?_)
    exact E11_waiting_26 q1.2 _ H1
  · replace H1 := if_ne hc H1
    refine ev_iload_n (M := T11_waiting) (pc := 7) 2 dX11_waiting_7 (k := ?_)
    refine ev_iconst (M := T11_waiting) (pc := 8) dX11_waiting_8 (k := ?_)
    refine ev_iconst (M := T11_waiting) (pc := 9) dX11_waiting_9 (k := ?_)
    obtain ⟨q2, hq, H2⟩ := bd_e H1
    clear H1
    refine ev_callS (M := T11_waiting) (pc := 10) (mc := 0) (ms := 0) (st := []) (C11_isWithin hq) md_X11_isWithin ss_X11_isWithin ml_X11_79 dX11_waiting_10 _ (by decide) (K := ?_)
    refine ev_ifeq (M := T11_waiting) (pc := 13) 26 dX11_waiting_13 (kt := fun hc => ?_) (kf := fun hc => ?_)
    · replace H2 := if_pe hc H2
      refine ev_lv [] [] (k := ?_)
      exact E11_waiting_26 q2.2 _ H2
    · replace H2 := if_ne hc H2
      refine ev_iload_n (M := T11_waiting) (pc := 16) 3 dX11_waiting_16 (k := ?_)
      refine ev_iconst (M := T11_waiting) (pc := 17) dX11_waiting_17 (k := ?_)
      refine ev_bipush (M := T11_waiting) (pc := 18) dX11_waiting_18 (k := ?_)
      obtain ⟨q3, hq, H3⟩ := bd_e H2
      clear H2
      refine ev_callS (M := T11_waiting) (pc := 20) (mc := 0) (ms := 0) (st := []) (C11_isWithin hq) md_X11_isWithin ss_X11_isWithin ml_X11_79 dX11_waiting_20 _ (by decide) (K := ?_)
      refine ev_ifne (M := T11_waiting) (pc := 23) 29 dX11_waiting_23 (kt := fun hc => ?_) (kf := fun hc => ?_)
      · replace H3 := if_ne hc H3
        refine ev_aload_n (M := T11_waiting) (pc := 29) 0 dX11_waiting_29 (k := ?_)
        refine ev_getR (M := T11_waiting) (pc := 30) (t := 38) (x := some (38, 0)) fl_X11_11 dX11_waiting_30 (hx := ry_11_2 _ _) (K := ?_)
        refine ev_iload_n (M := T11_waiting) (pc := 33) 1 dX11_waiting_33 (k := ?_)
        obtain ⟨⟨hi0, hi1⟩, H4⟩ := g_e H3
        clear H3
        refine ev_aaload (M := T11_waiting) (pc := 34) (k := 38) 1 (x := some (1, l1)) hi0 hi1 dX11_waiting_34 (hc := ac_38) (hlen := ln_38 _ _) (hx := rz_38 _ _ _) (K := ?_)
        refine ev_getR (M := T11_waiting) (pc := 35) (t := 21) (x := some (21, l1)) fl_X11_118 dX11_waiting_35 (hx := ry_1_2 _ _) (K := ?_)
        refine ev_iload_n (M := T11_waiting) (pc := 38) 2 dX11_waiting_38 (k := ?_)
        obtain ⟨⟨hi0, hi1⟩, H5⟩ := g_e H4
        clear H4
        refine ev_aaload (M := T11_waiting) (pc := 39) (k := 21) 2 (x := some (2, (3 * l1 + l2))) hi0 hi1 dX11_waiting_39 (hc := ac_21) (hlen := ln_21 _ _) (hx := rz_21 _ _ _) (K := ?_)
        refine ev_astore (M := T11_waiting) (pc := 40) [(4, .inr (.inr (some (2, (3 * l1 + l2))))), (0, .inr (.inr (some (11, 0)))), (1, .inl (l1)), (2, .inl (l2)), (3, .inl (l3))] dX11_waiting_40 (k := ?_)
        refine ev_aload (M := T11_waiting) (pc := 42) 0 dX11_waiting_42 (k := ?_)
        refine ev_getI (M := T11_waiting) (pc := 44) (x := q3.2.1 2 (3 * l1 + l2) 2) fl_X11_134 dX11_waiting_44 (K := ?_)
        obtain ⟨x4, ex4, H6⟩ := lt_e H5
        clear H5
        refine ev_topI ex4 ?_
        refine ev_istore (M := T11_waiting) (pc := 47) [(5, .inl (x4)), (4, .inr (.inr (some (2, (3 * l1 + l2))))), (0, .inr (.inr (some (11, 0)))), (1, .inl (l1)), (2, .inl (l2)), (3, .inl (l3))] dX11_waiting_47 (k := ?_)
        refine ev_aload (M := T11_waiting) (pc := 49) 1 dX11_waiting_49 (k := ?_)
        refine ev_iload_n (M := T11_waiting) (pc := 51) 5 dX11_waiting_51 (k := ?_)
        obtain ⟨h5, eh5, H7⟩ := lt_e H6
        clear H6
        refine ev_putI (M := T11_waiting) (pc := 52) j_ok1 fl_X11_134 eh5 dX11_waiting_52 (K := ?_)
        refine ev_iload (M := T11_waiting) (pc := 55) 0 dX11_waiting_55 (k := ?_)
        cases H7
        exact ev_ireturn (M := T11_waiting) (pc := 57) dX11_waiting_57
      · replace H3 := if_pe hc H3
        refine ev_lv [] [] (k := ?_)
        exact E11_waiting_26 q3.2 _ H3
-- X12_begins
abbrev T12_begins : JT := (RX12, cX12_begins, 3, none, false)
set_option maxRecDepth 100000 in
set_option maxHeartbeats 4000000 in
theorem C12_begins {l1 : Int} {l2 : Int} {h : JM} {res : JM} (H : F12_begins l1 l2 h = some res) : Cn j_W1 1 0 0 yX12_begins cX12_begins 3 none [.inr (.inr (some (12, 0))), .inl (l1), .inl (l2)] h none res := by
  refine Cn.by (own := RX12) (b := false) [(0, .inr (.inr (some (12, 0)))), (1, .inl (l1)), (2, .inl (l2))] rfl (fun z => by cases z) (by decide +kernel) (K := ?_)
  unfold F12_begins at H
  refine ev_aload_n (M := T12_begins) (pc := 0) 0 dX12_begins_0 (k := ?_)
  refine ev_getR (M := T12_begins) (pc := 1) (t := 156) (x := some (156, 0)) fl_X12_164 dX12_begins_1 (hx := ry_12_56 _ _) (K := ?_)
  refine ev_iconst (M := T12_begins) (pc := 4) dX12_begins_4 (k := ?_)
  refine ev_iload_n (M := T12_begins) (pc := 5) 1 dX12_begins_5 (k := ?_)
  obtain ⟨⟨hi0, hi1⟩, H1⟩ := g_e H
  clear H
  obtain ⟨h1, eh1, H2⟩ := lt_e H1
  clear H1
  refine ev_iastore (M := T12_begins) (pc := 6) (k := 156) j_ok1 hi0 hi1 eh1 dX12_begins_6 (hc := ac_156) (hlen := ln_156 _ _) (K := ?_)
  refine ev_aload_n (M := T12_begins) (pc := 7) 0 dX12_begins_7 (k := ?_)
  refine ev_getR (M := T12_begins) (pc := 8) (t := 156) (x := some (156, 0)) fl_X12_164 dX12_begins_8 (hx := ry_12_56 _ _) (K := ?_)
  refine ev_iconst (M := T12_begins) (pc := 11) dX12_begins_11 (k := ?_)
  refine ev_iload_n (M := T12_begins) (pc := 12) 2 dX12_begins_12 (k := ?_)
  obtain ⟨⟨hi0, hi1⟩, H3⟩ := g_e H2
  clear H2
  obtain ⟨h2, eh2, H4⟩ := lt_e H3
  clear H3
  refine ev_iastore (M := T12_begins) (pc := 13) (k := 156) j_ok1 hi0 hi1 eh2 dX12_begins_13 (hc := ac_156) (hlen := ln_156 _ _) (K := ?_)
  refine ev_aload_n (M := T12_begins) (pc := 14) 0 dX12_begins_14 (k := ?_)
  refine ev_iconst (M := T12_begins) (pc := 15) dX12_begins_15 (k := ?_)
  obtain ⟨h3, eh3, H5⟩ := lt_e H4
  clear H4
  refine ev_putI (M := T12_begins) (pc := 16) j_ok1 fl_X12_355 eh3 dX12_begins_16 (K := ?_)
  cases H5
  exact ev_return (M := T12_begins) (pc := 19) dX12_begins_19
-- X12_goes
abbrev T12_goes : JT := (RX12, cX12_goes, 4, none, false)
set_option maxRecDepth 100000 in
set_option maxHeartbeats 4000000 in
theorem E12_goes_39b (k39 : Int → Int → Int → JM → Option JM) (hk39 : ∀ (l1 : Int) (l2 : Int) (l3 : Int) (h : JM) (res : JM), k39 l1 l2 l3 h = some res → Ev j_W1 1 0 0 T12_goes 39 [(0, .inr (.inr (some (12, 0)))), (1, .inl (l1)), (2, .inl (l2)), (3, .inl (l3))] [] h none res) (l1 : Int) (l2 : Int) (l3 : Int) (h : JM) (res : JM) (H : F12_goes_39b k39 l1 l2 l3 h = some res) : Ev j_W1 1 0 0 T12_goes 39 [(0, .inr (.inr (some (12, 0)))), (1, .inl (l1)), (2, .inl (l2)), (3, .inl (l3))] [] h none res := by
  unfold F12_goes_39b at H
  refine ev_iload_n (M := T12_goes) (pc := 39) 3 dX12_goes_39 (k := ?_)
  refine ev_aload_n (M := T12_goes) (pc := 40) 0 dX12_goes_40 (k := ?_)
  refine ev_getI (M := T12_goes) (pc := 41) (x := h.1 12 0 57) fl_X12_355 dX12_goes_41 (K := ?_)
  refine ev_icmpge (M := T12_goes) (pc := 44) 70 dX12_goes_44 (kt := fun hc => ?_) (kf := fun hc => ?_)
  · replace H := if_pe hc H
    refine ev_aload_n (M := T12_goes) (pc := 70) 0 dX12_goes_70 (k := ?_)
    refine ev_getR (M := T12_goes) (pc := 71) (t := 159) (x := some (159, 0)) fl_X12_170 dX12_goes_71 (hx := ry_12_59 _ _) (K := ?_)
    refine ev_iload_n (M := T12_goes) (pc := 74) 2 dX12_goes_74 (k := ?_)
    refine ev_aload_n (M := T12_goes) (pc := 75) 0 dX12_goes_75 (k := ?_)
    refine ev_getI (M := T12_goes) (pc := 76) (x := h.1 12 0 57) fl_X12_355 dX12_goes_76 (K := ?_)
    obtain ⟨⟨hi0, hi1⟩, H1⟩ := g_e H
    clear H
    obtain ⟨h1, eh1, H2⟩ := lt_e H1
    clear H1
    refine ev_iastore (M := T12_goes) (pc := 79) (k := 159) j_ok1 hi0 hi1 eh1 dX12_goes_79 (hc := ac_159) (hlen := ln_159 _ _) (K := ?_)
    refine ev_aload_n (M := T12_goes) (pc := 80) 0 dX12_goes_80 (k := ?_)
    refine ev_getR (M := T12_goes) (pc := 81) (t := 160) (x := some (160, 0)) fl_X12_173 dX12_goes_81 (hx := ry_12_60 _ _) (K := ?_)
    refine ev_iload_n (M := T12_goes) (pc := 84) 1 dX12_goes_84 (k := ?_)
    refine ev_dup2 (M := T12_goes) (pc := 85) dX12_goes_85 (k := ?_)
    obtain ⟨⟨hi0, hi1⟩, H3⟩ := g_e H2
    clear H2
    refine ev_iaload (M := T12_goes) (pc := 86) (k := 160) hi0 hi1 dX12_goes_86 (hc := ac_160) (hlen := ln_160 _ _) (K := ?_)
    refine ev_iconst (M := T12_goes) (pc := 87) dX12_goes_87 (k := ?_)
    refine ev_iadd (M := T12_goes) (pc := 88) dX12_goes_88 (k := ?_)
    obtain ⟨⟨hi0, hi1⟩, H4⟩ := g_e H3
    clear H3
    obtain ⟨h2, eh2, H5⟩ := lt_e H4
    clear H4
    refine ev_iastore (M := T12_goes) (pc := 89) (k := 160) j_ok1 hi0 hi1 eh2 dX12_goes_89 (hc := ac_160) (hlen := ln_160 _ _) (K := ?_)
    cases H5
    exact ev_return (M := T12_goes) (pc := 90) dX12_goes_90
  · replace H := if_ne hc H
    refine ev_aload_n (M := T12_goes) (pc := 47) 0 dX12_goes_47 (k := ?_)
    refine ev_getR (M := T12_goes) (pc := 48) (t := 158) (x := some (158, 0)) fl_X12_167 dX12_goes_48 (hx := ry_12_58 _ _) (K := ?_)
    refine ev_bipush (M := T12_goes) (pc := 51) dX12_goes_51 (k := ?_)
    refine ev_iload_n (M := T12_goes) (pc := 53) 2 dX12_goes_53 (k := ?_)
    refine ev_imul (M := T12_goes) (pc := 54) dX12_goes_54 (k := ?_)
    refine ev_iload_n (M := T12_goes) (pc := 55) 3 dX12_goes_55 (k := ?_)
    refine ev_iadd (M := T12_goes) (pc := 56) dX12_goes_56 (k := ?_)
    refine ev_aload_n (M := T12_goes) (pc := 57) 0 dX12_goes_57 (k := ?_)
    refine ev_getR (M := T12_goes) (pc := 58) (t := 156) (x := some (156, 0)) fl_X12_164 dX12_goes_58 (hx := ry_12_56 _ _) (K := ?_)
    refine ev_iload_n (M := T12_goes) (pc := 61) 3 dX12_goes_61 (k := ?_)
    obtain ⟨⟨hi0, hi1⟩, H1⟩ := g_e H
    clear H
    refine ev_iaload (M := T12_goes) (pc := 62) (k := 156) hi0 hi1 dX12_goes_62 (hc := ac_156) (hlen := ln_156 _ _) (K := ?_)
    obtain ⟨⟨hi0, hi1⟩, H2⟩ := g_e H1
    clear H1
    obtain ⟨h3, eh3, H3⟩ := lt_e H2
    clear H2
    refine ev_iastore (M := T12_goes) (pc := 63) (k := 158) j_ok1 hi0 hi1 eh3 dX12_goes_63 (hc := ac_158) (hlen := ln_158 _ _) (K := ?_)
    refine ev_iinc (M := T12_goes) (pc := 64) 3 [(3, .inl (w32 (l3 + 1))), (0, .inr (.inr (some (12, 0)))), (1, .inl (l1)), (2, .inl (l2))] dX12_goes_64 (k := ?_)
    refine ev_goto (M := T12_goes) (pc := 67) 39 dX12_goes_67 (k := ?_)
    refine ev_lv [1, 2, 3, 0] [(0, .inr (.inr (some (12, 0)))), (1, .inl (l1)), (2, .inl (l2)), (3, .inl (w32 (l3 + 1)))] (k := ?_)
    exact hk39 l1 l2 (w32 (l3 + 1)) h3 _ H3
theorem E12_goes_39 (n : Nat) : ∀ (l1 : Int) (l2 : Int) (l3 : Int) (h : JM) (res : JM), F12_goes_39 n l1 l2 l3 h = some res → Ev j_W1 1 0 0 T12_goes 39 [(0, .inr (.inr (some (12, 0)))), (1, .inl (l1)), (2, .inl (l2)), (3, .inl (l3))] [] h none res := by
  induction n with
  | zero =>
    intro l1 l2 l3 h res H
    cases H
  | succ n ih =>
    intro l1 l2 l3 h res H
    exact E12_goes_39b (F12_goes_39 n) ih l1 l2 l3 h res H
set_option maxRecDepth 100000 in
set_option maxHeartbeats 4000000 in
theorem C12_goes {l1 : Int} {h : JM} {res : JM} (H : F12_goes l1 h = some res) : Cn j_W1 1 0 0 yX12_goes cX12_goes 4 none [.inr (.inr (some (12, 0))), .inl (l1)] h none res := by
  refine Cn.by (own := RX12) (b := false) [(0, .inr (.inr (some (12, 0)))), (1, .inl (l1))] rfl (fun z => by cases z) (by decide +kernel) (K := ?_)
  unfold F12_goes at H
  refine ev_aload_n (M := T12_goes) (pc := 0) 0 dX12_goes_0 (k := ?_)
  refine ev_getR (M := T12_goes) (pc := 1) (t := 160) (x := some (160, 0)) fl_X12_173 dX12_goes_1 (hx := ry_12_60 _ _) (K := ?_)
  refine ev_iload_n (M := T12_goes) (pc := 4) 1 dX12_goes_4 (k := ?_)
  obtain ⟨⟨hi0, hi1⟩, H1⟩ := g_e H
  clear H
  refine ev_iaload (M := T12_goes) (pc := 5) (k := 160) hi0 hi1 dX12_goes_5 (hc := ac_160) (hlen := ln_160 _ _) (K := ?_)
  refine ev_aload_n (M := T12_goes) (pc := 6) 0 dX12_goes_6 (k := ?_)
  refine ev_getR (M := T12_goes) (pc := 7) (t := 161) (x := some (161, 0)) fl_X12_176 dX12_goes_7 (hx := ry_12_61 _ _) (K := ?_)
  refine ev_iload_n (M := T12_goes) (pc := 10) 1 dX12_goes_10 (k := ?_)
  obtain ⟨⟨hi0, hi1⟩, H2⟩ := g_e H1
  clear H1
  refine ev_iaload (M := T12_goes) (pc := 11) (k := 161) hi0 hi1 dX12_goes_11 (hc := ac_161) (hlen := ln_161 _ _) (K := ?_)
  refine ev_isub (M := T12_goes) (pc := 12) dX12_goes_12 (k := ?_)
  refine ev_sipush (M := T12_goes) (pc := 13) dX12_goes_13 (k := ?_)
  refine ev_icmplt (M := T12_goes) (pc := 16) 20 dX12_goes_16 (kt := fun hc => ?_) (kf := fun hc => ?_)
  · replace H2 := if_pe hc H2
    refine ev_sipush (M := T12_goes) (pc := 20) dX12_goes_20 (k := ?_)
    refine ev_iload_n (M := T12_goes) (pc := 23) 1 dX12_goes_23 (k := ?_)
    refine ev_imul (M := T12_goes) (pc := 24) dX12_goes_24 (k := ?_)
    refine ev_aload_n (M := T12_goes) (pc := 25) 0 dX12_goes_25 (k := ?_)
    refine ev_getR (M := T12_goes) (pc := 26) (t := 160) (x := some (160, 0)) fl_X12_173 dX12_goes_26 (hx := ry_12_60 _ _) (K := ?_)
    refine ev_iload_n (M := T12_goes) (pc := 29) 1 dX12_goes_29 (k := ?_)
    obtain ⟨⟨hi0, hi1⟩, H3⟩ := g_e H2
    clear H2
    refine ev_iaload (M := T12_goes) (pc := 30) (k := 160) hi0 hi1 dX12_goes_30 (hc := ac_160) (hlen := ln_160 _ _) (K := ?_)
    refine ev_sipush (M := T12_goes) (pc := 31) dX12_goes_31 (k := ?_)
    refine ev_irem (M := T12_goes) (pc := 34) dX12_goes_34 (by decide) (k := ?_)
    refine ev_iadd (M := T12_goes) (pc := 35) dX12_goes_35 (k := ?_)
    obtain ⟨x4, ex4, H4⟩ := lt_e H3
    clear H3
    refine ev_topI ex4 ?_
    refine ev_istore_n (M := T12_goes) (pc := 36) [(2, .inl (x4)), (0, .inr (.inr (some (12, 0)))), (1, .inl (l1))] dX12_goes_36 (k := ?_)
    refine ev_iconst (M := T12_goes) (pc := 37) dX12_goes_37 (k := ?_)
    refine ev_istore_n (M := T12_goes) (pc := 38) [(3, .inl (0)), (2, .inl (x4)), (0, .inr (.inr (some (12, 0)))), (1, .inl (l1))] dX12_goes_38 (k := ?_)
    refine ev_lv [2, 3, 1, 0] [(0, .inr (.inr (some (12, 0)))), (1, .inl (l1)), (2, .inl (x4)), (3, .inl (0))] (k := ?_)
    exact E12_goes_39 j_fu l1 x4 0 h _ H4
  · replace H2 := if_ne hc H2
    cases H2
    exact ev_return (M := T12_goes) (pc := 19) dX12_goes_19
-- X12_isCircuit
abbrev T12_isCircuit : JT := (RX12, cX12_isCircuit, 1, some .boolean, false)
set_option maxRecDepth 100000 in
set_option maxHeartbeats 4000000 in
theorem E12_isCircuit_17 (h : JM) (res : (Int × JM)) (H : F12_isCircuit_17 h = some res) : Ev j_W1 1 0 0 T12_isCircuit 17 [] [] h (some (.inl res.1)) res.2 := by
  unfold F12_isCircuit_17 at H
  refine ev_iconst (M := T12_isCircuit) (pc := 17) dX12_isCircuit_17 (k := ?_)
  cases H
  exact ev_zreturn (M := T12_isCircuit) (pc := 18) (Or.inl rfl) dX12_isCircuit_18
set_option maxRecDepth 100000 in
set_option maxHeartbeats 4000000 in
theorem C12_isCircuit {l0 : Int} {h : JM} {res : (Int × JM)} (H : F12_isCircuit l0 h = some res) : Cn j_W1 1 0 0 yX12_isCircuit cX12_isCircuit 1 (some .boolean) [.inl (l0)] h (some (.inl res.1)) res.2 := by
  refine Cn.by (own := RX12) (b := false) [(0, .inl (l0))] rfl (fun z => by cases z) (by decide +kernel) (K := ?_)
  unfold F12_isCircuit at H
  refine ev_iload_n (M := T12_isCircuit) (pc := 0) 0 dX12_isCircuit_0 (k := ?_)
  refine ev_bipush (M := T12_isCircuit) (pc := 1) dX12_isCircuit_1 (k := ?_)
  refine ev_icmplt (M := T12_isCircuit) (pc := 3) 17 dX12_isCircuit_3 (kt := fun hc => ?_) (kf := fun hc => ?_)
  · replace H := if_pe hc H
    refine ev_lv [] [] (k := ?_)
    exact E12_isCircuit_17 h _ H
  · replace H := if_ne hc H
    refine ev_iload_n (M := T12_isCircuit) (pc := 6) 0 dX12_isCircuit_6 (k := ?_)
    refine ev_sipush (M := T12_isCircuit) (pc := 7) dX12_isCircuit_7 (k := ?_)
    refine ev_icmpge (M := T12_isCircuit) (pc := 10) 17 dX12_isCircuit_10 (kt := fun hc => ?_) (kf := fun hc => ?_)
    · replace H := if_pe hc H
      refine ev_lv [] [] (k := ?_)
      exact E12_isCircuit_17 h _ H
    · replace H := if_ne hc H
      refine ev_iconst (M := T12_isCircuit) (pc := 13) dX12_isCircuit_13 (k := ?_)
      refine ev_goto (M := T12_isCircuit) (pc := 14) 18 dX12_isCircuit_14 (k := ?_)
      cases H
      exact ev_zreturn (M := T12_isCircuit) (pc := 18) (Or.inr rfl) dX12_isCircuit_18
-- X12_acm
abbrev T12_acm : JT := (RX12, cX12_acm, 2, none, false)
set_option maxRecDepth 100000 in
set_option maxHeartbeats 4000000 in
theorem C12_acm {l1 : Int} {h : JM} {res : JM} (H : F12_acm l1 h = some res) : Cn j_W1 2 0 0 yX12_acm cX12_acm 2 none [.inr (.inr (some (12, 0))), .inl (l1)] h none res := by
  refine Cn.by (own := RX12) (b := false) [(0, .inr (.inr (some (12, 0)))), (1, .inl (l1))] rfl (fun z => by cases z) (by decide +kernel) (K := ?_)
  unfold F12_acm at H
  refine ev_aload_n (M := T12_acm) (pc := 0) 0 dX12_acm_0 (k := ?_)
  refine ev_getR (M := T12_acm) (pc := 1) (t := 136) (x := some (136, 0)) fl_X12_104 dX12_acm_1 (hx := ry_12_36 _ _) (K := ?_)
  refine ev_iload_n (M := T12_acm) (pc := 4) 1 dX12_acm_4 (k := ?_)
  obtain ⟨⟨hi0, hi1⟩, H1⟩ := g_e H
  clear H
  refine ev_iaload (M := T12_acm) (pc := 5) (k := 136) hi0 hi1 dX12_acm_5 (hc := ac_136) (hlen := ln_136 _ _) (K := ?_)
  obtain ⟨q1, hq, H2⟩ := bd_e H1
  clear H1
  refine ev_callS (M := T12_acm) (pc := 6) (mc := 0) (ms := 0) (st := []) (C12_isCircuit hq) md_X12_isCircuit ss_X12_isCircuit ml_X12_379 dX12_acm_6 _ (by decide) (K := ?_)
  refine ev_ifeq (M := T12_acm) (pc := 9) 21 dX12_acm_9 (kt := fun hc => ?_) (kf := fun hc => ?_)
  · replace H2 := if_pe hc H2
    cases H2
    exact ev_return (M := T12_acm) (pc := 21) dX12_acm_21
  · replace H2 := if_ne hc H2
    refine ev_aload_n (M := T12_acm) (pc := 12) 0 dX12_acm_12 (k := ?_)
    refine ev_getR (M := T12_acm) (pc := 13) (t := 148) (x := some (148, 0)) fl_X12_140 dX12_acm_13 (hx := ry_12_48 _ _) (K := ?_)
    refine ev_iload_n (M := T12_acm) (pc := 16) 1 dX12_acm_16 (k := ?_)
    obtain ⟨⟨hi0, hi1⟩, H3⟩ := g_e H2
    clear H2
    refine ev_zaload (M := T12_acm) (pc := 17) (k := 148) hi0 hi1 dX12_acm_17 (hc := ac_148) (hlen := ln_148 _ _) (K := ?_)
    refine ev_ifeq (M := T12_acm) (pc := 18) 22 dX12_acm_18 (kt := fun hc => ?_) (kf := fun hc => ?_)
    · replace H3 := if_pe hc H3
      refine ev_aload_n (M := T12_acm) (pc := 22) 0 dX12_acm_22 (k := ?_)
      refine ev_getR (M := T12_acm) (pc := 23) (t := 148) (x := some (148, 0)) fl_X12_140 dX12_acm_23 (hx := ry_12_48 _ _) (K := ?_)
      refine ev_iload_n (M := T12_acm) (pc := 26) 1 dX12_acm_26 (k := ?_)
      refine ev_iconst (M := T12_acm) (pc := 27) dX12_acm_27 (k := ?_)
      obtain ⟨⟨hi0, hi1⟩, H4⟩ := g_e H3
      clear H3
      obtain ⟨h2, eh2, H5⟩ := lt_e H4
      clear H4
      refine ev_zastore (M := T12_acm) (pc := 28) (k := 148) j_ok1 hi0 hi1 (Or.inr rfl) eh2 dX12_acm_28 (hc := ac_148) (hlen := ln_148 _ _) (K := ?_)
      refine ev_aload_n (M := T12_acm) (pc := 29) 0 dX12_acm_29 (k := ?_)
      refine ev_aload_n (M := T12_acm) (pc := 30) 0 dX12_acm_30 (k := ?_)
      refine ev_getR (M := T12_acm) (pc := 31) (t := 136) (x := some (136, 0)) fl_X12_104 dX12_acm_31 (hx := ry_12_36 _ _) (K := ?_)
      refine ev_iload_n (M := T12_acm) (pc := 34) 1 dX12_acm_34 (k := ?_)
      obtain ⟨⟨hi0, hi1⟩, H6⟩ := g_e H5
      clear H5
      refine ev_iaload (M := T12_acm) (pc := 35) (k := 136) hi0 hi1 dX12_acm_35 (hc := ac_136) (hlen := ln_136 _ _) (K := ?_)
      refine ev_bipush (M := T12_acm) (pc := 36) dX12_acm_36 (k := ?_)
      refine ev_isub (M := T12_acm) (pc := 38) dX12_acm_38 (k := ?_)
      refine ev_iconst (M := T12_acm) (pc := 39) dX12_acm_39 (k := ?_)
      obtain ⟨h3, hq, H7⟩ := bd_e H6
      clear H6
      refine ev_callV (M := T12_acm) (pc := 40) (mc := 0) (ms := 0) (st := []) (C12_begins hq) md_X12_begins im_X12_begins se_X12_begins ml_X12_352 dX12_acm_40 _ (by decide) (K := ?_)
      refine ev_aload_n (M := T12_acm) (pc := 43) 0 dX12_acm_43 (k := ?_)
      refine ev_aload_n (M := T12_acm) (pc := 44) 0 dX12_acm_44 (k := ?_)
      refine ev_getR (M := T12_acm) (pc := 45) (t := 135) (x := some (135, 0)) fl_X12_101 dX12_acm_45 (hx := ry_12_35 _ _) (K := ?_)
      refine ev_iload_n (M := T12_acm) (pc := 48) 1 dX12_acm_48 (k := ?_)
      obtain ⟨⟨hi0, hi1⟩, H8⟩ := g_e H7
      clear H7
      refine ev_iaload (M := T12_acm) (pc := 49) (k := 135) hi0 hi1 dX12_acm_49 (hc := ac_135) (hlen := ln_135 _ _) (K := ?_)
      obtain ⟨h4, hq, H9⟩ := bd_e H8
      clear H8
      refine ev_callV (M := T12_acm) (pc := 50) (mc := 0) (ms := 0) (st := []) (C12_goes hq) md_X12_goes im_X12_goes se_X12_goes ml_X12_358 dX12_acm_50 _ (by decide) (K := ?_)
      cases H9
      exact ev_return (M := T12_acm) (pc := 53) dX12_acm_53
    · replace H3 := if_ne hc H3
      cases H3
      exact ev_return (M := T12_acm) (pc := 21) dX12_acm_21
-- X12_analysis
abbrev T12_analysis : JT := (RX12, cX12_analysis, 9, some .int, false)
set_option maxRecDepth 100000 in
set_option maxHeartbeats 4000000 in
theorem E12_analysis_158 (k21 : Int → Int → Int → Int → Int → JM → Option (Int × JM)) (hk21 : ∀ (l1 : Int) (l2 : Int) (l3 : Int) (l4 : Int) (l5 : Int) (h : JM) (res : (Int × JM)), k21 l1 l2 l3 l4 l5 h = some res → Ev j_W1 1 0 0 T12_analysis 21 [(0, .inr (.inr (some (12, 0)))), (1, .inl (l1)), (2, .inl (l2)), (3, .inl (l3)), (4, .inl (l4)), (5, .inl (l5))] [] h (some (.inl res.1)) res.2) (l1 : Int) (l2 : Int) (l3 : Int) (l4 : Int) (l5 : Int) (h : JM) (res : (Int × JM)) (H : F12_analysis_158 k21 l1 l2 l3 l4 l5 h = some res) : Ev j_W1 1 0 0 T12_analysis 158 [(0, .inr (.inr (some (12, 0)))), (1, .inl (l1)), (2, .inl (l2)), (3, .inl (l3)), (4, .inl (l4)), (5, .inl (l5))] [] h (some (.inl res.1)) res.2 := by
  unfold F12_analysis_158 at H
  refine ev_iinc (M := T12_analysis) (pc := 158) 5 [(5, .inl (w32 (l5 + 1))), (0, .inr (.inr (some (12, 0)))), (1, .inl (l1)), (2, .inl (l2)), (3, .inl (l3)), (4, .inl (l4))] dX12_analysis_158 (k := ?_)
  refine ev_goto (M := T12_analysis) (pc := 161) 21 dX12_analysis_161 (k := ?_)
  refine ev_lv [1, 2, 3, 4, 5, 0] [(0, .inr (.inr (some (12, 0)))), (1, .inl (l1)), (2, .inl (l2)), (3, .inl (l3)), (4, .inl (l4)), (5, .inl (w32 (l5 + 1)))] (k := ?_)
  exact hk21 l1 l2 l3 l4 (w32 (l5 + 1)) h _ H
set_option maxRecDepth 100000 in
set_option maxHeartbeats 4000000 in
theorem E12_analysis_154 (k21 : Int → Int → Int → Int → Int → JM → Option (Int × JM)) (hk21 : ∀ (l1 : Int) (l2 : Int) (l3 : Int) (l4 : Int) (l5 : Int) (h : JM) (res : (Int × JM)), k21 l1 l2 l3 l4 l5 h = some res → Ev j_W1 1 0 0 T12_analysis 21 [(0, .inr (.inr (some (12, 0)))), (1, .inl (l1)), (2, .inl (l2)), (3, .inl (l3)), (4, .inl (l4)), (5, .inl (l5))] [] h (some (.inl res.1)) res.2) (l1 : Int) (l2 : Int) (l3 : Int) (l5 : Int) (l6 : Int) (h : JM) (res : (Int × JM)) (H : F12_analysis_154 k21 l1 l2 l3 l5 l6 h = some res) : Ev j_W1 1 0 0 T12_analysis 154 [(0, .inr (.inr (some (12, 0)))), (1, .inl (l1)), (2, .inl (l2)), (3, .inl (l3)), (5, .inl (l5)), (6, .inl (l6))] [] h (some (.inl res.1)) res.2 := by
  unfold F12_analysis_154 at H
  refine ev_iload (M := T12_analysis) (pc := 154) 5 dX12_analysis_154 (k := ?_)
  refine ev_istore (M := T12_analysis) (pc := 156) [(4, .inl (l6)), (0, .inr (.inr (some (12, 0)))), (1, .inl (l1)), (2, .inl (l2)), (3, .inl (l3)), (5, .inl (l5)), (6, .inl (l6))] dX12_analysis_156 (k := ?_)
  refine ev_lv [1, 2, 3, 4, 0, 5] [(0, .inr (.inr (some (12, 0)))), (1, .inl (l1)), (2, .inl (l2)), (3, .inl (l3)), (4, .inl (l6)), (5, .inl (l5))] (k := ?_)
  exact E12_analysis_158 k21 hk21 l1 l2 l3 l6 l5 h _ H
set_option maxRecDepth 100000 in
set_option maxHeartbeats 4000000 in
theorem E12_analysis_109 (k21 : Int → Int → Int → Int → Int → JM → Option (Int × JM)) (hk21 : ∀ (l1 : Int) (l2 : Int) (l3 : Int) (l4 : Int) (l5 : Int) (h : JM) (res : (Int × JM)), k21 l1 l2 l3 l4 l5 h = some res → Ev j_W1 1 0 0 T12_analysis 21 [(0, .inr (.inr (some (12, 0)))), (1, .inl (l1)), (2, .inl (l2)), (3, .inl (l3)), (4, .inl (l4)), (5, .inl (l5))] [] h (some (.inl res.1)) res.2) (l1 : Int) (l2 : Int) (l3 : Int) (l4 : Int) (l5 : Int) (l6 : Int) (l7 : Int) (h : JM) (res : (Int × JM)) (H : F12_analysis_109 k21 l1 l2 l3 l4 l5 l6 l7 h = some res) : Ev j_W1 1 0 0 T12_analysis 109 [(0, .inr (.inr (some (12, 0)))), (1, .inl (l1)), (2, .inl (l2)), (3, .inl (l3)), (4, .inl (l4)), (5, .inl (l5)), (6, .inl (l6)), (7, .inl (l7))] [] h (some (.inl res.1)) res.2 := by
  unfold F12_analysis_109 at H
  refine ev_iload (M := T12_analysis) (pc := 109) 7 dX12_analysis_109 (k := ?_)
  refine ev_ifne (M := T12_analysis) (pc := 111) 117 dX12_analysis_111 (kt := fun hc => ?_) (kf := fun hc => ?_)
  · replace H := if_ne hc H
    refine ev_aload_n (M := T12_analysis) (pc := 117) 0 dX12_analysis_117 (k := ?_)
    refine ev_getR (M := T12_analysis) (pc := 118) (t := 107) (x := some (107, 0)) fl_X12_19 dX12_analysis_118 (hx := ry_12_7 _ _) (K := ?_)
    refine ev_iload (M := T12_analysis) (pc := 121) 6 dX12_analysis_121 (k := ?_)
    obtain ⟨⟨hi0, hi1⟩, H1⟩ := g_e H
    clear H
    refine ev_iaload (M := T12_analysis) (pc := 123) (k := 107) hi0 hi1 dX12_analysis_123 (hc := ac_107) (hlen := ln_107 _ _) (K := ?_)
    refine ev_iload_n (M := T12_analysis) (pc := 124) 3 dX12_analysis_124 (k := ?_)
    refine ev_icmple (M := T12_analysis) (pc := 125) 130 dX12_analysis_125 (kt := fun hc => ?_) (kf := fun hc => ?_)
    · replace H1 := if_pe hc H1
      refine ev_iload (M := T12_analysis) (pc := 130) 4 dX12_analysis_130 (k := ?_)
      refine ev_bipush (M := T12_analysis) (pc := 132) dX12_analysis_132 (k := ?_)
      refine ev_icmpeq (M := T12_analysis) (pc := 134) 154 dX12_analysis_134 (kt := fun hc => ?_) (kf := fun hc => ?_)
      · replace H1 := if_pe hc H1
        refine ev_lv [0, 1, 2, 3, 5, 6] [(0, .inr (.inr (some (12, 0)))), (1, .inl (l1)), (2, .inl (l2)), (3, .inl (l3)), (5, .inl (l5)), (6, .inl (l6))] (k := ?_)
        exact E12_analysis_154 k21 hk21 l1 l2 l3 l5 l6 h _ H1
      · replace H1 := if_ne hc H1
        refine ev_aload_n (M := T12_analysis) (pc := 137) 0 dX12_analysis_137 (k := ?_)
        refine ev_getR (M := T12_analysis) (pc := 138) (t := 107) (x := some (107, 0)) fl_X12_19 dX12_analysis_138 (hx := ry_12_7 _ _) (K := ?_)
        refine ev_iload (M := T12_analysis) (pc := 141) 6 dX12_analysis_141 (k := ?_)
        obtain ⟨⟨hi0, hi1⟩, H2⟩ := g_e H1
        clear H1
        refine ev_iaload (M := T12_analysis) (pc := 143) (k := 107) hi0 hi1 dX12_analysis_143 (hc := ac_107) (hlen := ln_107 _ _) (K := ?_)
        refine ev_aload_n (M := T12_analysis) (pc := 144) 0 dX12_analysis_144 (k := ?_)
        refine ev_getR (M := T12_analysis) (pc := 145) (t := 107) (x := some (107, 0)) fl_X12_19 dX12_analysis_145 (hx := ry_12_7 _ _) (K := ?_)
        refine ev_iload (M := T12_analysis) (pc := 148) 4 dX12_analysis_148 (k := ?_)
        obtain ⟨⟨hi0, hi1⟩, H3⟩ := g_e H2
        clear H2
        refine ev_iaload (M := T12_analysis) (pc := 150) (k := 107) hi0 hi1 dX12_analysis_150 (hc := ac_107) (hlen := ln_107 _ _) (K := ?_)
        refine ev_icmple (M := T12_analysis) (pc := 151) 158 dX12_analysis_151 (kt := fun hc => ?_) (kf := fun hc => ?_)
        · replace H3 := if_pe hc H3
          refine ev_lv [0, 1, 2, 3, 4, 5] [(0, .inr (.inr (some (12, 0)))), (1, .inl (l1)), (2, .inl (l2)), (3, .inl (l3)), (4, .inl (l4)), (5, .inl (l5))] (k := ?_)
          exact E12_analysis_158 k21 hk21 l1 l2 l3 l4 l5 h _ H3
        · replace H3 := if_ne hc H3
          refine ev_lv [0, 1, 2, 3, 5, 6] [(0, .inr (.inr (some (12, 0)))), (1, .inl (l1)), (2, .inl (l2)), (3, .inl (l3)), (5, .inl (l5)), (6, .inl (l6))] (k := ?_)
          exact E12_analysis_154 k21 hk21 l1 l2 l3 l5 l6 h _ H3
    · replace H1 := if_ne hc H1
      refine ev_iconst (M := T12_analysis) (pc := 128) dX12_analysis_128 (k := ?_)
      cases H1
      exact ev_ireturn (M := T12_analysis) (pc := 129) dX12_analysis_129
  · replace H := if_pe hc H
    refine ev_goto (M := T12_analysis) (pc := 114) 158 dX12_analysis_114 (k := ?_)
    refine ev_lv [0, 1, 2, 3, 4, 5] [(0, .inr (.inr (some (12, 0)))), (1, .inl (l1)), (2, .inl (l2)), (3, .inl (l3)), (4, .inl (l4)), (5, .inl (l5))] (k := ?_)
    exact E12_analysis_158 k21 hk21 l1 l2 l3 l4 l5 h _ H
set_option maxRecDepth 100000 in
set_option maxHeartbeats 4000000 in
theorem E12_analysis_100 (k21 : Int → Int → Int → Int → Int → JM → Option (Int × JM)) (hk21 : ∀ (l1 : Int) (l2 : Int) (l3 : Int) (l4 : Int) (l5 : Int) (h : JM) (res : (Int × JM)), k21 l1 l2 l3 l4 l5 h = some res → Ev j_W1 1 0 0 T12_analysis 21 [(0, .inr (.inr (some (12, 0)))), (1, .inl (l1)), (2, .inl (l2)), (3, .inl (l3)), (4, .inl (l4)), (5, .inl (l5))] [] h (some (.inl res.1)) res.2) (k47 : Int → Int → Int → Int → Int → Int → Int → Int → JM → Option (Int × JM)) (hk47 : ∀ (l1 : Int) (l2 : Int) (l3 : Int) (l4 : Int) (l5 : Int) (l6 : Int) (l7 : Int) (l8 : Int) (h : JM) (res : (Int × JM)), k47 l1 l2 l3 l4 l5 l6 l7 l8 h = some res → Ev j_W1 1 0 0 T12_analysis 47 [(0, .inr (.inr (some (12, 0)))), (1, .inl (l1)), (2, .inl (l2)), (3, .inl (l3)), (4, .inl (l4)), (5, .inl (l5)), (6, .inl (l6)), (7, .inl (l7)), (8, .inl (l8))] [] h (some (.inl res.1)) res.2) (l1 : Int) (l2 : Int) (l3 : Int) (l4 : Int) (l5 : Int) (l6 : Int) (l8 : Int) (s0 : Int) (s1 : Int) (h : JM) (res : (Int × JM)) (H : F12_analysis_100 k21 k47 l1 l2 l3 l4 l5 l6 l8 s0 s1 h = some res) : Ev j_W1 1 0 0 T12_analysis 100 [(0, .inr (.inr (some (12, 0)))), (1, .inl (l1)), (2, .inl (l2)), (3, .inl (l3)), (4, .inl (l4)), (5, .inl (l5)), (6, .inl (l6)), (8, .inl (l8))] [.inl (s1), .inl (s0)] h (some (.inl res.1)) res.2 := by
  unfold F12_analysis_100 at H
  refine ev_iand (M := T12_analysis) (pc := 100) dX12_analysis_100 (k := ?_)
  obtain ⟨x1, ex1, H1⟩ := lt_e H
  clear H
  refine ev_topI ex1 ?_
  refine ev_istore (M := T12_analysis) (pc := 101) [(7, .inl (x1)), (0, .inr (.inr (some (12, 0)))), (1, .inl (l1)), (2, .inl (l2)), (3, .inl (l3)), (4, .inl (l4)), (5, .inl (l5)), (6, .inl (l6)), (8, .inl (l8))] dX12_analysis_101 (k := ?_)
  refine ev_iinc (M := T12_analysis) (pc := 103) 8 [(8, .inl (w32 (l8 + 1))), (7, .inl (x1)), (0, .inr (.inr (some (12, 0)))), (1, .inl (l1)), (2, .inl (l2)), (3, .inl (l3)), (4, .inl (l4)), (5, .inl (l5)), (6, .inl (l6))] dX12_analysis_103 (k := ?_)
  refine ev_goto (M := T12_analysis) (pc := 106) 47 dX12_analysis_106 (k := ?_)
  refine ev_lv [2, 3, 4, 5, 6, 7, 8, 1, 0] [(0, .inr (.inr (some (12, 0)))), (1, .inl (l1)), (2, .inl (l2)), (3, .inl (l3)), (4, .inl (l4)), (5, .inl (l5)), (6, .inl (l6)), (7, .inl (x1)), (8, .inl (w32 (l8 + 1)))] (k := ?_)
  exact hk47 l1 l2 l3 l4 l5 l6 x1 (w32 (l8 + 1)) h _ H1
set_option maxRecDepth 100000 in
set_option maxHeartbeats 4000000 in
theorem E12_analysis_47b (k21 : Int → Int → Int → Int → Int → JM → Option (Int × JM)) (hk21 : ∀ (l1 : Int) (l2 : Int) (l3 : Int) (l4 : Int) (l5 : Int) (h : JM) (res : (Int × JM)), k21 l1 l2 l3 l4 l5 h = some res → Ev j_W1 1 0 0 T12_analysis 21 [(0, .inr (.inr (some (12, 0)))), (1, .inl (l1)), (2, .inl (l2)), (3, .inl (l3)), (4, .inl (l4)), (5, .inl (l5))] [] h (some (.inl res.1)) res.2) (k47 : Int → Int → Int → Int → Int → Int → Int → Int → JM → Option (Int × JM)) (hk47 : ∀ (l1 : Int) (l2 : Int) (l3 : Int) (l4 : Int) (l5 : Int) (l6 : Int) (l7 : Int) (l8 : Int) (h : JM) (res : (Int × JM)), k47 l1 l2 l3 l4 l5 l6 l7 l8 h = some res → Ev j_W1 1 0 0 T12_analysis 47 [(0, .inr (.inr (some (12, 0)))), (1, .inl (l1)), (2, .inl (l2)), (3, .inl (l3)), (4, .inl (l4)), (5, .inl (l5)), (6, .inl (l6)), (7, .inl (l7)), (8, .inl (l8))] [] h (some (.inl res.1)) res.2) (l1 : Int) (l2 : Int) (l3 : Int) (l4 : Int) (l5 : Int) (l6 : Int) (l7 : Int) (l8 : Int) (h : JM) (res : (Int × JM)) (H : F12_analysis_47b k21 k47 l1 l2 l3 l4 l5 l6 l7 l8 h = some res) : Ev j_W1 1 0 0 T12_analysis 47 [(0, .inr (.inr (some (12, 0)))), (1, .inl (l1)), (2, .inl (l2)), (3, .inl (l3)), (4, .inl (l4)), (5, .inl (l5)), (6, .inl (l6)), (7, .inl (l7)), (8, .inl (l8))] [] h (some (.inl res.1)) res.2 := by
  unfold F12_analysis_47b at H
  refine ev_iload (M := T12_analysis) (pc := 47) 8 dX12_analysis_47 (k := ?_)
  refine ev_iload_n (M := T12_analysis) (pc := 49) 3 dX12_analysis_49 (k := ?_)
  refine ev_icmpge (M := T12_analysis) (pc := 50) 109 dX12_analysis_50 (kt := fun hc => ?_) (kf := fun hc => ?_)
  · replace H := if_pe hc H
    refine ev_lv [0, 1, 2, 3, 4, 5, 6, 7] [(0, .inr (.inr (some (12, 0)))), (1, .inl (l1)), (2, .inl (l2)), (3, .inl (l3)), (4, .inl (l4)), (5, .inl (l5)), (6, .inl (l6)), (7, .inl (l7))] (k := ?_)
    exact E12_analysis_109 k21 hk21 l1 l2 l3 l4 l5 l6 l7 h _ H
  · replace H := if_ne hc H
    refine ev_iload (M := T12_analysis) (pc := 53) 8 dX12_analysis_53 (k := ?_)
    refine ev_aload_n (M := T12_analysis) (pc := 55) 0 dX12_analysis_55 (k := ?_)
    refine ev_getR (M := T12_analysis) (pc := 56) (t := 107) (x := some (107, 0)) fl_X12_19 dX12_analysis_56 (hx := ry_12_7 _ _) (K := ?_)
    refine ev_iload (M := T12_analysis) (pc := 59) 6 dX12_analysis_59 (k := ?_)
    obtain ⟨⟨hi0, hi1⟩, H1⟩ := g_e H
    clear H
    refine ev_iaload (M := T12_analysis) (pc := 61) (k := 107) hi0 hi1 dX12_analysis_61 (hc := ac_107) (hlen := ln_107 _ _) (K := ?_)
    refine ev_icmpge (M := T12_analysis) (pc := 62) 109 dX12_analysis_62 (kt := fun hc => ?_) (kf := fun hc => ?_)
    · replace H1 := if_pe hc H1
      refine ev_lv [0, 1, 2, 3, 4, 5, 6, 7] [(0, .inr (.inr (some (12, 0)))), (1, .inl (l1)), (2, .inl (l2)), (3, .inl (l3)), (4, .inl (l4)), (5, .inl (l5)), (6, .inl (l6)), (7, .inl (l7))] (k := ?_)
      exact E12_analysis_109 k21 hk21 l1 l2 l3 l4 l5 l6 l7 h _ H1
    · replace H1 := if_ne hc H1
      refine ev_iload (M := T12_analysis) (pc := 65) 7 dX12_analysis_65 (k := ?_)
      refine ev_aload_n (M := T12_analysis) (pc := 67) 0 dX12_analysis_67 (k := ?_)
      refine ev_getR (M := T12_analysis) (pc := 68) (t := 106) (x := some (106, 0)) fl_X12_16 dX12_analysis_68 (hx := ry_12_6 _ _) (K := ?_)
      refine ev_bipush (M := T12_analysis) (pc := 71) dX12_analysis_71 (k := ?_)
      refine ev_iload (M := T12_analysis) (pc := 73) 6 dX12_analysis_73 (k := ?_)
      refine ev_imul (M := T12_analysis) (pc := 75) dX12_analysis_75 (k := ?_)
      refine ev_iload (M := T12_analysis) (pc := 76) 8 dX12_analysis_76 (k := ?_)
      refine ev_iadd (M := T12_analysis) (pc := 78) dX12_analysis_78 (k := ?_)
      obtain ⟨⟨hi0, hi1⟩, H2⟩ := g_e H1
      clear H1
      refine ev_iaload (M := T12_analysis) (pc := 79) (k := 106) hi0 hi1 dX12_analysis_79 (hc := ac_106) (hlen := ln_106 _ _) (K := ?_)
      refine ev_aload_n (M := T12_analysis) (pc := 80) 0 dX12_analysis_80 (k := ?_)
      refine ev_getR (M := T12_analysis) (pc := 81) (t := 139) (x := some (139, 0)) fl_X12_113 dX12_analysis_81 (hx := ry_12_39 _ _) (K := ?_)
      refine ev_bipush (M := T12_analysis) (pc := 84) dX12_analysis_84 (k := ?_)
      refine ev_iload_n (M := T12_analysis) (pc := 86) 1 dX12_analysis_86 (k := ?_)
      refine ev_imul (M := T12_analysis) (pc := 87) dX12_analysis_87 (k := ?_)
      refine ev_iload (M := T12_analysis) (pc := 88) 8 dX12_analysis_88 (k := ?_)
      refine ev_iadd (M := T12_analysis) (pc := 90) dX12_analysis_90 (k := ?_)
      obtain ⟨⟨hi0, hi1⟩, H3⟩ := g_e H2
      clear H2
      refine ev_iaload (M := T12_analysis) (pc := 91) (k := 139) hi0 hi1 dX12_analysis_91 (hc := ac_139) (hlen := ln_139 _ _) (K := ?_)
      refine ev_icmpne (M := T12_analysis) (pc := 92) 99 dX12_analysis_92 (kt := fun hc => ?_) (kf := fun hc => ?_)
      · replace H3 := if_ne hc H3
        refine ev_iconst (M := T12_analysis) (pc := 99) dX12_analysis_99 (k := ?_)
        refine ev_lv [0, 1, 2, 3, 4, 5, 6, 8] [(0, .inr (.inr (some (12, 0)))), (1, .inl (l1)), (2, .inl (l2)), (3, .inl (l3)), (4, .inl (l4)), (5, .inl (l5)), (6, .inl (l6)), (8, .inl (l8))] (k := ?_)
        exact E12_analysis_100 k21 hk21 k47 hk47 l1 l2 l3 l4 l5 l6 l8 l7 0 h _ H3
      · replace H3 := if_pe hc H3
        refine ev_iconst (M := T12_analysis) (pc := 95) dX12_analysis_95 (k := ?_)
        refine ev_goto (M := T12_analysis) (pc := 96) 100 dX12_analysis_96 (k := ?_)
        refine ev_lv [0, 1, 2, 3, 4, 5, 6, 8] [(0, .inr (.inr (some (12, 0)))), (1, .inl (l1)), (2, .inl (l2)), (3, .inl (l3)), (4, .inl (l4)), (5, .inl (l5)), (6, .inl (l6)), (8, .inl (l8))] (k := ?_)
        exact E12_analysis_100 k21 hk21 k47 hk47 l1 l2 l3 l4 l5 l6 l8 l7 1 h _ H3
theorem E12_analysis_47 (k21 : Int → Int → Int → Int → Int → JM → Option (Int × JM)) (hk21 : ∀ (l1 : Int) (l2 : Int) (l3 : Int) (l4 : Int) (l5 : Int) (h : JM) (res : (Int × JM)), k21 l1 l2 l3 l4 l5 h = some res → Ev j_W1 1 0 0 T12_analysis 21 [(0, .inr (.inr (some (12, 0)))), (1, .inl (l1)), (2, .inl (l2)), (3, .inl (l3)), (4, .inl (l4)), (5, .inl (l5))] [] h (some (.inl res.1)) res.2) (n : Nat) : ∀ (l1 : Int) (l2 : Int) (l3 : Int) (l4 : Int) (l5 : Int) (l6 : Int) (l7 : Int) (l8 : Int) (h : JM) (res : (Int × JM)), F12_analysis_47 k21 n l1 l2 l3 l4 l5 l6 l7 l8 h = some res → Ev j_W1 1 0 0 T12_analysis 47 [(0, .inr (.inr (some (12, 0)))), (1, .inl (l1)), (2, .inl (l2)), (3, .inl (l3)), (4, .inl (l4)), (5, .inl (l5)), (6, .inl (l6)), (7, .inl (l7)), (8, .inl (l8))] [] h (some (.inl res.1)) res.2 := by
  induction n with
  | zero =>
    intro l1 l2 l3 l4 l5 l6 l7 l8 h res H
    cases H
  | succ n ih =>
    intro l1 l2 l3 l4 l5 l6 l7 l8 h res H
    exact E12_analysis_47b k21 hk21 (F12_analysis_47 k21 n) ih l1 l2 l3 l4 l5 l6 l7 l8 h res H
set_option maxRecDepth 100000 in
set_option maxHeartbeats 4000000 in
theorem E12_analysis_21b (k21 : Int → Int → Int → Int → Int → JM → Option (Int × JM)) (hk21 : ∀ (l1 : Int) (l2 : Int) (l3 : Int) (l4 : Int) (l5 : Int) (h : JM) (res : (Int × JM)), k21 l1 l2 l3 l4 l5 h = some res → Ev j_W1 1 0 0 T12_analysis 21 [(0, .inr (.inr (some (12, 0)))), (1, .inl (l1)), (2, .inl (l2)), (3, .inl (l3)), (4, .inl (l4)), (5, .inl (l5))] [] h (some (.inl res.1)) res.2) (l1 : Int) (l2 : Int) (l3 : Int) (l4 : Int) (l5 : Int) (h : JM) (res : (Int × JM)) (H : F12_analysis_21b k21 l1 l2 l3 l4 l5 h = some res) : Ev j_W1 1 0 0 T12_analysis 21 [(0, .inr (.inr (some (12, 0)))), (1, .inl (l1)), (2, .inl (l2)), (3, .inl (l3)), (4, .inl (l4)), (5, .inl (l5))] [] h (some (.inl res.1)) res.2 := by
  unfold F12_analysis_21b at H
  refine ev_iload (M := T12_analysis) (pc := 21) 5 dX12_analysis_21 (k := ?_)
  refine ev_aload_n (M := T12_analysis) (pc := 23) 0 dX12_analysis_23 (k := ?_)
  refine ev_getR (M := T12_analysis) (pc := 24) (t := 105) (x := some (105, 0)) fl_X12_13 dX12_analysis_24 (hx := ry_12_5 _ _) (K := ?_)
  refine ev_iload_n (M := T12_analysis) (pc := 27) 2 dX12_analysis_27 (k := ?_)
  obtain ⟨⟨hi0, hi1⟩, H1⟩ := g_e H
  clear H
  refine ev_iaload (M := T12_analysis) (pc := 28) (k := 105) hi0 hi1 dX12_analysis_28 (hc := ac_105) (hlen := ln_105 _ _) (K := ?_)
  refine ev_icmpge (M := T12_analysis) (pc := 29) 164 dX12_analysis_29 (kt := fun hc => ?_) (kf := fun hc => ?_)
  · replace H1 := if_pe hc H1
    refine ev_iload (M := T12_analysis) (pc := 164) 4 dX12_analysis_164 (k := ?_)
    refine ev_bipush (M := T12_analysis) (pc := 166) dX12_analysis_166 (k := ?_)
    refine ev_icmpne (M := T12_analysis) (pc := 168) 174 dX12_analysis_168 (kt := fun hc => ?_) (kf := fun hc => ?_)
    · replace H1 := if_ne hc H1
      refine ev_aload_n (M := T12_analysis) (pc := 174) 0 dX12_analysis_174 (k := ?_)
      refine ev_getR (M := T12_analysis) (pc := 175) (t := 108) (x := some (108, 0)) fl_X12_22 dX12_analysis_175 (hx := ry_12_8 _ _) (K := ?_)
      refine ev_iload (M := T12_analysis) (pc := 178) 4 dX12_analysis_178 (k := ?_)
      obtain ⟨⟨hi0, hi1⟩, H2⟩ := g_e H1
      clear H1
      refine ev_iaload (M := T12_analysis) (pc := 180) (k := 108) hi0 hi1 dX12_analysis_180 (hc := ac_108) (hlen := ln_108 _ _) (K := ?_)
      refine ev_iload_n (M := T12_analysis) (pc := 181) 3 dX12_analysis_181 (k := ?_)
      refine ev_icmple (M := T12_analysis) (pc := 182) 189 dX12_analysis_182 (kt := fun hc => ?_) (kf := fun hc => ?_)
      · replace H2 := if_pe hc H2
        refine ev_aload_n (M := T12_analysis) (pc := 189) 0 dX12_analysis_189 (k := ?_)
        refine ev_getR (M := T12_analysis) (pc := 190) (t := 108) (x := some (108, 0)) fl_X12_22 dX12_analysis_190 (hx := ry_12_8 _ _) (K := ?_)
        refine ev_iload (M := T12_analysis) (pc := 193) 4 dX12_analysis_193 (k := ?_)
        obtain ⟨⟨hi0, hi1⟩, H3⟩ := g_e H2
        clear H2
        refine ev_iaload (M := T12_analysis) (pc := 195) (k := 108) hi0 hi1 dX12_analysis_195 (hc := ac_108) (hlen := ln_108 _ _) (K := ?_)
        refine ev_iload_n (M := T12_analysis) (pc := 196) 3 dX12_analysis_196 (k := ?_)
        refine ev_icmpge (M := T12_analysis) (pc := 197) 205 dX12_analysis_197 (kt := fun hc => ?_) (kf := fun hc => ?_)
        · replace H3 := if_pe hc H3
          refine ev_iload (M := T12_analysis) (pc := 205) 4 dX12_analysis_205 (k := ?_)
          cases H3
          exact ev_ireturn (M := T12_analysis) (pc := 207) dX12_analysis_207
        · replace H3 := if_ne hc H3
          refine ev_bipush (M := T12_analysis) (pc := 200) dX12_analysis_200 (k := ?_)
          refine ev_goto (M := T12_analysis) (pc := 202) 207 dX12_analysis_202 (k := ?_)
          cases H3
          exact ev_ireturn (M := T12_analysis) (pc := 207) dX12_analysis_207
      · replace H2 := if_ne hc H2
        refine ev_iconst (M := T12_analysis) (pc := 185) dX12_analysis_185 (k := ?_)
        refine ev_goto (M := T12_analysis) (pc := 186) 207 dX12_analysis_186 (k := ?_)
        cases H2
        exact ev_ireturn (M := T12_analysis) (pc := 207) dX12_analysis_207
    · replace H1 := if_pe hc H1
      refine ev_bipush (M := T12_analysis) (pc := 171) dX12_analysis_171 (k := ?_)
      cases H1
      exact ev_ireturn (M := T12_analysis) (pc := 173) dX12_analysis_173
  · replace H1 := if_ne hc H1
    refine ev_bipush (M := T12_analysis) (pc := 32) dX12_analysis_32 (k := ?_)
    refine ev_iload_n (M := T12_analysis) (pc := 34) 2 dX12_analysis_34 (k := ?_)
    refine ev_imul (M := T12_analysis) (pc := 35) dX12_analysis_35 (k := ?_)
    refine ev_iload (M := T12_analysis) (pc := 36) 5 dX12_analysis_36 (k := ?_)
    refine ev_iadd (M := T12_analysis) (pc := 38) dX12_analysis_38 (k := ?_)
    obtain ⟨x2, ex2, H2⟩ := lt_e H1
    clear H1
    refine ev_topI ex2 ?_
    refine ev_istore (M := T12_analysis) (pc := 39) [(6, .inl (x2)), (0, .inr (.inr (some (12, 0)))), (1, .inl (l1)), (2, .inl (l2)), (3, .inl (l3)), (4, .inl (l4)), (5, .inl (l5))] dX12_analysis_39 (k := ?_)
    refine ev_iconst (M := T12_analysis) (pc := 41) dX12_analysis_41 (k := ?_)
    refine ev_istore (M := T12_analysis) (pc := 42) [(7, .inl (1)), (6, .inl (x2)), (0, .inr (.inr (some (12, 0)))), (1, .inl (l1)), (2, .inl (l2)), (3, .inl (l3)), (4, .inl (l4)), (5, .inl (l5))] dX12_analysis_42 (k := ?_)
    refine ev_iconst (M := T12_analysis) (pc := 44) dX12_analysis_44 (k := ?_)
    refine ev_istore (M := T12_analysis) (pc := 45) [(8, .inl (0)), (7, .inl (1)), (6, .inl (x2)), (0, .inr (.inr (some (12, 0)))), (1, .inl (l1)), (2, .inl (l2)), (3, .inl (l3)), (4, .inl (l4)), (5, .inl (l5))] dX12_analysis_45 (k := ?_)
    refine ev_lv [3, 4, 5, 6, 7, 8, 2, 1, 0] [(0, .inr (.inr (some (12, 0)))), (1, .inl (l1)), (2, .inl (l2)), (3, .inl (l3)), (4, .inl (l4)), (5, .inl (l5)), (6, .inl (x2)), (7, .inl (1)), (8, .inl (0))] (k := ?_)
    exact E12_analysis_47 k21 hk21 j_fu l1 l2 l3 l4 l5 x2 1 0 h _ H2
theorem E12_analysis_21 (n : Nat) : ∀ (l1 : Int) (l2 : Int) (l3 : Int) (l4 : Int) (l5 : Int) (h : JM) (res : (Int × JM)), F12_analysis_21 n l1 l2 l3 l4 l5 h = some res → Ev j_W1 1 0 0 T12_analysis 21 [(0, .inr (.inr (some (12, 0)))), (1, .inl (l1)), (2, .inl (l2)), (3, .inl (l3)), (4, .inl (l4)), (5, .inl (l5))] [] h (some (.inl res.1)) res.2 := by
  induction n with
  | zero =>
    intro l1 l2 l3 l4 l5 h res H
    cases H
  | succ n ih =>
    intro l1 l2 l3 l4 l5 h res H
    exact E12_analysis_21b (F12_analysis_21 n) ih l1 l2 l3 l4 l5 h res H
set_option maxRecDepth 100000 in
set_option maxHeartbeats 4000000 in
theorem C12_analysis {l1 : Int} {h : JM} {res : (Int × JM)} (H : F12_analysis l1 h = some res) : Cn j_W1 1 0 0 yX12_analysis cX12_analysis 9 (some .int) [.inr (.inr (some (12, 0))), .inl (l1)] h (some (.inl res.1)) res.2 := by
  refine Cn.by (own := RX12) (b := false) [(0, .inr (.inr (some (12, 0)))), (1, .inl (l1))] rfl (fun z => by cases z) (by decide +kernel) (K := ?_)
  unfold F12_analysis at H
  refine ev_aload_n (M := T12_analysis) (pc := 0) 0 dX12_analysis_0 (k := ?_)
  refine ev_getR (M := T12_analysis) (pc := 1) (t := 135) (x := some (135, 0)) fl_X12_101 dX12_analysis_1 (hx := ry_12_35 _ _) (K := ?_)
  refine ev_iload_n (M := T12_analysis) (pc := 4) 1 dX12_analysis_4 (k := ?_)
  obtain ⟨⟨hi0, hi1⟩, H1⟩ := g_e H
  clear H
  refine ev_iaload (M := T12_analysis) (pc := 5) (k := 135) hi0 hi1 dX12_analysis_5 (hc := ac_135) (hlen := ln_135 _ _) (K := ?_)
  obtain ⟨x3, ex3, H2⟩ := lt_e H1
  clear H1
  refine ev_topI ex3 ?_
  refine ev_istore_n (M := T12_analysis) (pc := 6) [(2, .inl (x3)), (0, .inr (.inr (some (12, 0)))), (1, .inl (l1))] dX12_analysis_6 (k := ?_)
  refine ev_aload_n (M := T12_analysis) (pc := 7) 1 dX12_analysis_7 (k := ?_)
  refine ev_getR (M := T12_analysis) (pc := 8) (t := 140) (x := some (140, 0)) fl_X12_116 dX12_analysis_8 (hx := ry_12_40 _ _) (K := ?_)
  refine ev_iload_n (M := T12_analysis) (pc := 11) 2 dX12_analysis_11 (k := ?_)
  obtain ⟨⟨hi0, hi1⟩, H3⟩ := g_e H2
  clear H2
  refine ev_iaload (M := T12_analysis) (pc := 12) (k := 140) hi0 hi1 dX12_analysis_12 (hc := ac_140) (hlen := ln_140 _ _) (K := ?_)
  obtain ⟨x4, ex4, H4⟩ := lt_e H3
  clear H3
  refine ev_topI ex4 ?_
  refine ev_istore_n (M := T12_analysis) (pc := 13) [(3, .inl (x4)), (2, .inl (x3)), (0, .inr (.inr (some (12, 0)))), (1, .inl (l1))] dX12_analysis_13 (k := ?_)
  refine ev_bipush (M := T12_analysis) (pc := 14) dX12_analysis_14 (k := ?_)
  refine ev_istore (M := T12_analysis) (pc := 16) [(4, .inl ((-2))), (3, .inl (x4)), (2, .inl (x3)), (0, .inr (.inr (some (12, 0)))), (1, .inl (l1))] dX12_analysis_16 (k := ?_)
  refine ev_iconst (M := T12_analysis) (pc := 18) dX12_analysis_18 (k := ?_)
  refine ev_istore (M := T12_analysis) (pc := 19) [(5, .inl (0)), (4, .inl ((-2))), (3, .inl (x4)), (2, .inl (x3)), (0, .inr (.inr (some (12, 0)))), (1, .inl (l1))] dX12_analysis_19 (k := ?_)
  refine ev_lv [4, 5, 3, 2, 1, 0] [(0, .inr (.inr (some (12, 0)))), (1, .inl (l1)), (2, .inl (x3)), (3, .inl (x4)), (4, .inl ((-2))), (5, .inl (0))] (k := ?_)
  exact E12_analysis_21 j_fu l1 x3 x4 (-2) 0 h _ H4
