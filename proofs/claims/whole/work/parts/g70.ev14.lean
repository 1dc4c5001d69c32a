-- X11_takeKey
abbrev T11_takeKey : JT := (RX11, cX11_takeKey, 5, none, false)
set_option maxRecDepth 100000 in
set_option maxHeartbeats 4000000 in
theorem C11_takeKey {l1 : Option Int} {l2 : Int} {h : JM} {res : JM} (H : F11_takeKey l1 l2 h = some res) : Cn j_W1 5 0 0 yX11_takeKey cX11_takeKey 5 none [.inr (.inr (some (11, 0))), .inr (.inr (Option.map (Prod.mk 4) (l1))), .inl (l2)] h none res := by
  refine Cn.by (own := RX11) (b := false) [(0, .inr (.inr (some (11, 0)))), (1, .inr (.inr (Option.map (Prod.mk 4) (l1)))), (2, .inl (l2))] rfl (fun z => by cases z) (by decide +kernel) (K := ?_)
  unfold F11_takeKey at H
  refine ev_aload_n (M := T11_takeKey) (pc := 0) 1 dX11_takeKey_0 (k := ?_)
  obtain ⟨a1, ea1, H1⟩ := bd_e H
  clear H
  rw [ea1]
  refine ev_getR (M := T11_takeKey) (pc := 1) (t := 0) (x := Option.map (Prod.mk 0) (h.2.2 4 a1 11)) fl_X11_206 dX11_takeKey_1 (hx := ry_4_11 _ _) (K := ?_)
  refine ev_astore_n (M := T11_takeKey) (pc := 4) [(3, .inr (.inr (Option.map (Prod.mk 0) (h.2.2 4 a1 11)))), (0, .inr (.inr (some (11, 0)))), (1, .inr (.inr (some (4, a1)))), (2, .inl (l2))] dX11_takeKey_4 (k := ?_)
  refine ev_aload_n (M := T11_takeKey) (pc := 5) 0 dX11_takeKey_5 (k := ?_)
  refine ev_nullK (M := T11_takeKey) (pc := 6) (h.2.2 4 a1 11) 28 dX11_takeKey_6 (kt := fun hc => ?_) (kf := fun hc => ?_)
  · replace H1 := if_pe hc H1
    cases H1
    exact ev_return (M := T11_takeKey) (pc := 28) dX11_takeKey_28
  · replace H1 := if_ne hc H1
    refine ev_aload_n (M := T11_takeKey) (pc := 9) 0 dX11_takeKey_9 (k := ?_)
    obtain ⟨a2, ea2, H2⟩ := bd_e H1
    clear H1
    rw [ea2]
    refine ev_getI (M := T11_takeKey) (pc := 10) (x := h.1 0 a2 9) fl_X11_210 dX11_takeKey_10 (K := ?_)
    refine ev_ifne (M := T11_takeKey) (pc := 13) 28 dX11_takeKey_13 (kt := fun hc => ?_) (kf := fun hc => ?_)
    · replace H2 := if_ne hc H2
      cases H2
      exact ev_return (M := T11_takeKey) (pc := 28) dX11_takeKey_28
    · replace H2 := if_pe hc H2
      refine ev_aload_n (M := T11_takeKey) (pc := 16) 0 dX11_takeKey_16 (k := ?_)
      refine ev_getL (M := T11_takeKey) (pc := 17) (x := h.2.1 0 a2 8) fl_X11_222 dX11_takeKey_17 (K := ?_)
      obtain ⟨q3, hq, H3⟩ := bd_e H2
      clear H2
      refine ev_callS (M := T11_takeKey) (pc := 20) (mc := 0) (ms := 0) (st := []) (C11_countOf hq) md_X11_countOf ss_X11_countOf ml_X11_83 dX11_takeKey_20 _ (by decide) (K := ?_)
      refine ev_bipush (M := T11_takeKey) (pc := 23) dX11_takeKey_23 (k := ?_)
      refine ev_icmplt (M := T11_takeKey) (pc := 25) 29 dX11_takeKey_25 (kt := fun hc => ?_) (kf := fun hc => ?_)
      · replace H3 := if_pe hc H3
        refine ev_aload_n (M := T11_takeKey) (pc := 29) 0 dX11_takeKey_29 (k := ?_)
        refine ev_aload_n (M := T11_takeKey) (pc := 30) 0 dX11_takeKey_30 (k := ?_)
        refine ev_getL (M := T11_takeKey) (pc := 31) (x := q3.2.2.1 0 a2 8) fl_X11_222 dX11_takeKey_31 (K := ?_)
        refine ev_iload_n (M := T11_takeKey) (pc := 34) 3 dX11_takeKey_34 (k := ?_)
        obtain ⟨q4, hq, H4⟩ := bd_e H3
        clear H3
        refine ev_callS (M := T11_takeKey) (pc := 35) (mc := 0) (ms := 0) (st := [.inr (.inr (some (0, a2)))]) (C11_withKey hq) md_X11_withKey ss_X11_withKey ml_X11_87 dX11_takeKey_35 _ (by decide) (K := ?_)
        obtain ⟨h5, eh5, H5⟩ := lt_e H4
        clear H4
        refine ev_putL (M := T11_takeKey) (pc := 38) j_ok1 fl_X11_222 eh5 dX11_takeKey_38 (K := ?_)
        refine ev_aload_n (M := T11_takeKey) (pc := 41) 0 dX11_takeKey_41 (k := ?_)
        refine ev_aload_n (M := T11_takeKey) (pc := 42) 1 dX11_takeKey_42 (k := ?_)
        refine ev_getI (M := T11_takeKey) (pc := 43) (x := h5.1 11 0 10) fl_X11_177 dX11_takeKey_43 (K := ?_)
        obtain ⟨h6, eh6, H6⟩ := lt_e H5
        clear H5
        refine ev_putI (M := T11_takeKey) (pc := 46) j_ok1 fl_X11_441 eh6 dX11_takeKey_46 (K := ?_)
        refine ev_aload_n (M := T11_takeKey) (pc := 49) 0 dX11_takeKey_49 (k := ?_)
        refine ev_getR (M := T11_takeKey) (pc := 50) (t := 1) (x := Option.map (Prod.mk 1) (h6.2.2 0 a2 0)) fl_X11_444 dX11_takeKey_50 (hx := ry_0_0 _ _) (K := ?_)
        refine ev_aload_n (M := T11_takeKey) (pc := 53) 0 dX11_takeKey_53 (k := ?_)
        refine ev_getL (M := T11_takeKey) (pc := 54) (x := h6.2.1 0 a2 8) fl_X11_222 dX11_takeKey_54 (K := ?_)
        obtain ⟨a7, ea7, H7⟩ := bd_e H6
        clear H6
        rw [ea7]
        obtain ⟨q8, hq, H8⟩ := bd_e H7
        clear H7
        refine ev_callV (M := T11_takeKey) (pc := 57) (mc := 0) (ms := 0) (st := []) (C1_analyse hq) md_X1_analyse im_X1_analyse se_X1_analyse ml_X11_372 dX11_takeKey_57 _ (by decide) (K := ?_)
        refine ev_istore (M := T11_takeKey) (pc := 60) [(4, .inl (q8.1)), (3, .inr (.inr (some (0, a2)))), (0, .inr (.inr (some (11, 0)))), (1, .inr (.inr (some (4, a1)))), (2, .inl (l2))] dX11_takeKey_60 (k := ?_)
        refine ev_iload (M := T11_takeKey) (pc := 62) 0 dX11_takeKey_62 (k := ?_)
        refine ev_bipush (M := T11_takeKey) (pc := 64) dX11_takeKey_64 (k := ?_)
        refine ev_icmpne (M := T11_takeKey) (pc := 66) 79 dX11_takeKey_66 (kt := fun hc => ?_) (kf := fun hc => ?_)
        · replace H8 := if_ne hc H8
          refine ev_iload (M := T11_takeKey) (pc := 79) 0 dX11_takeKey_79 (k := ?_)
          refine ev_iconst (M := T11_takeKey) (pc := 81) dX11_takeKey_81 (k := ?_)
          refine ev_icmpeq (M := T11_takeKey) (pc := 82) 116 dX11_takeKey_82 (kt := fun hc => ?_) (kf := fun hc => ?_)
          · replace H8 := if_pe hc H8
            cases H8
            exact ev_return (M := T11_takeKey) (pc := 116) dX11_takeKey_116
          · replace H8 := if_ne hc H8
            refine ev_aload_n (M := T11_takeKey) (pc := 85) 1 dX11_takeKey_85 (k := ?_)
            refine ev_aload_n (M := T11_takeKey) (pc := 86) 1 dX11_takeKey_86 (k := ?_)
            refine ev_getR (M := T11_takeKey) (pc := 87) (t := 1) (x := Option.map (Prod.mk 1) (q8.2.2.2 0 a2 0)) fl_X11_444 dX11_takeKey_87 (hx := ry_0_0 _ _) (K := ?_)
            obtain ⟨a9, ea9, H9⟩ := bd_e H8
            clear H8
            rw [ea9]
            refine ev_getR (M := T11_takeKey) (pc := 90) (t := 22) (x := some (22, a9)) fl_X11_106 dX11_takeKey_90 (hx := ry_1_3 _ _) (K := ?_)
            refine ev_iload (M := T11_takeKey) (pc := 93) 0 dX11_takeKey_93 (k := ?_)
            obtain ⟨⟨hi0, hi1⟩, H10⟩ := g_e H9
            clear H9
            refine ev_aaload (M := T11_takeKey) (pc := 95) (k := 22) 6 (x := Option.map (Prod.mk 6) (q8.2.2.2 22 a9 q8.1)) hi0 hi1 dX11_takeKey_95 (hc := ac_22) (hlen := ln_22 _ _) (hx := rz_22 _ _ _) (K := ?_)
            obtain ⟨h10, eh10, H11⟩ := lt_e H10
            clear H10
            refine ev_putR (M := T11_takeKey) (pc := 96) (t := 6) j_ok1 (q8.2.2.2 22 a9 q8.1) fl_X11_379 eh10 (hdg := dX11_takeKey_96) (hly := rl_0_7 _) (K := ?_)
            refine ev_aload_n (M := T11_takeKey) (pc := 99) 1 dX11_takeKey_99 (k := ?_)
            refine ev_aload_n (M := T11_takeKey) (pc := 100) 1 dX11_takeKey_100 (k := ?_)
            refine ev_getR (M := T11_takeKey) (pc := 101) (t := 6) (x := Option.map (Prod.mk 6) (h10.2.2 0 a2 7)) fl_X11_379 dX11_takeKey_101 (hx := ry_0_7 _ _) (K := ?_)
            obtain ⟨a11, ea11, H12⟩ := bd_e H11
            clear H11
            rw [ea11]
            refine ev_getI (M := T11_takeKey) (pc := 104) (x := h10.1 6 a11 4) fl_X11_448 dX11_takeKey_104 (K := ?_)
            obtain ⟨h12, eh12, H13⟩ := lt_e H12
            clear H12
            refine ev_putI (M := T11_takeKey) (pc := 107) j_ok1 fl_X11_451 eh12 dX11_takeKey_107 (K := ?_)
            refine ev_aload_n (M := T11_takeKey) (pc := 110) 2 dX11_takeKey_110 (k := ?_)
            refine ev_aload_n (M := T11_takeKey) (pc := 111) 1 dX11_takeKey_111 (k := ?_)
            refine ev_iconst (M := T11_takeKey) (pc := 112) dX11_takeKey_112 (k := ?_)
            obtain ⟨h13, hq, H14⟩ := bd_e H13
            clear H13
            refine ev_callV (M := T11_takeKey) (pc := 113) (mc := 0) (ms := 0) (st := []) (C11_place hq) md_X11_place im_X11_place se_X11_place ml_X11_355 dX11_takeKey_113 _ (by decide) (K := ?_)
            cases H14
            exact ev_return (M := T11_takeKey) (pc := 116) dX11_takeKey_116
        · replace H8 := if_pe hc H8
          refine ev_aload_n (M := T11_takeKey) (pc := 69) 2 dX11_takeKey_69 (k := ?_)
          refine ev_aload_n (M := T11_takeKey) (pc := 70) 1 dX11_takeKey_70 (k := ?_)
          refine ev_iconst (M := T11_takeKey) (pc := 71) dX11_takeKey_71 (k := ?_)
          refine ev_iconst (M := T11_takeKey) (pc := 72) dX11_takeKey_72 (k := ?_)
          obtain ⟨h14, hq, H9⟩ := bd_e H8
          clear H8
          refine ev_callV (M := T11_takeKey) (pc := 73) (mc := 0) (ms := 0) (st := []) (C11_end hq) md_X11_end im_X11_end se_X11_end ml_X11_375 dX11_takeKey_73 _ (by decide) (K := ?_)
          refine ev_goto (M := T11_takeKey) (pc := 76) 116 dX11_takeKey_76 (k := ?_)
          cases H9
          exact ev_return (M := T11_takeKey) (pc := 116) dX11_takeKey_116
      · replace H3 := if_ne hc H3
        cases H3
        exact ev_return (M := T11_takeKey) (pc := 28) dX11_takeKey_28
-- X11_takeRelease
abbrev T11_takeRelease : JT := (RX11, cX11_takeRelease, 5, none, false)
set_option maxRecDepth 100000 in
set_option maxHeartbeats 4000000 in
theorem E11_takeRelease_72 (s0 : Option Int) (s1 : Option Int) (s2 : Int) (s3 : Int) (h : JM) (res : JM) (H : F11_takeRelease_72 s0 s1 s2 s3 h = some res) : Ev j_W1 4 0 0 T11_takeRelease 72 [] [.inl (s3), .inl (s2), .inr (.inr (Option.map (Prod.mk 0) (s1))), .inr (.inr (Option.map (Prod.mk 11) (s0)))] h none res := by
  unfold F11_takeRelease_72 at H
  obtain ⟨a1, ea1, H1⟩ := bd_e H
  clear H
  obtain ⟨hz, H2⟩ := g_e H1
  clear H1
  rw [ea1, hz]
  obtain ⟨h2, hq, H3⟩ := bd_e H2
  clear H2
  refine ev_callV (M := T11_takeRelease) (pc := 72) (mc := 0) (ms := 0) (st := []) (C11_end hq) md_X11_end im_X11_end se_X11_end ml_X11_375 dX11_takeRelease_72 _ (by decide) (K := ?_)
  cases H3
  exact ev_return (M := T11_takeRelease) (pc := 75) dX11_takeRelease_75
set_option maxRecDepth 100000 in
set_option maxHeartbeats 4000000 in
theorem C11_takeRelease {l1 : Option Int} {l2 : Option Int} {l3 : Int} {h : JM} {res : JM} (H : F11_takeRelease l1 l2 l3 h = some res) : Cn j_W1 4 0 0 yX11_takeRelease cX11_takeRelease 5 none [.inr (.inr (some (11, 0))), .inr (.inr (Option.map (Prod.mk 1) (l1))), .inr (.inr (Option.map (Prod.mk 8) (l2))), .inl (l3)] h none res := by
  refine Cn.by (own := RX11) (b := false) [(0, .inr (.inr (some (11, 0)))), (1, .inr (.inr (Option.map (Prod.mk 1) (l1)))), (2, .inr (.inr (Option.map (Prod.mk 8) (l2)))), (3, .inl (l3))] rfl (fun z => by cases z) (by decide +kernel) (K := ?_)
  unfold F11_takeRelease at H
  refine ev_aload_n (M := T11_takeRelease) (pc := 0) 2 dX11_takeRelease_0 (k := ?_)
  obtain ⟨a3, ea3, H1⟩ := bd_e H
  clear H
  rw [ea3]
  refine ev_getI (M := T11_takeRelease) (pc := 1) (x := h.1 8 a3 2) fl_X11_250 dX11_takeRelease_1 (K := ?_)
  refine ev_ifne (M := T11_takeRelease) (pc := 4) 8 dX11_takeRelease_4 (kt := fun hc => ?_) (kf := fun hc => ?_)
  · replace H1 := if_ne hc H1
    refine ev_aload_n (M := T11_takeRelease) (pc := 8) 1 dX11_takeRelease_8 (k := ?_)
    obtain ⟨a4, ea4, H2⟩ := bd_e H1
    clear H1
    rw [ea4]
    refine ev_getR (M := T11_takeRelease) (pc := 9) (t := 5) (x := some (5, a4)) fl_X11_261 dX11_takeRelease_9 (hx := ry_1_7 _ _) (K := ?_)
    refine ev_iconst (M := T11_takeRelease) (pc := 12) dX11_takeRelease_12 (k := ?_)
    refine ev_aload_n (M := T11_takeRelease) (pc := 13) 2 dX11_takeRelease_13 (k := ?_)
    refine ev_getI (M := T11_takeRelease) (pc := 14) (x := h.1 8 a3 0) fl_X11_320 dX11_takeRelease_14 (K := ?_)
    refine ev_lconst (M := T11_takeRelease) (pc := 17) (v := 0) dX11_takeRelease_17 (k := ?_)
    obtain ⟨q5, hq, H3⟩ := bd_e H2
    clear H2
    refine ev_callS (M := T11_takeRelease) (pc := 18) (mc := 0) (ms := 0) (st := [.inr (.inr (some (5, a4)))]) (C9_pack hq) md_X9_pack ss_X9_pack ml_X11_404 dX11_takeRelease_18 _ (by decide) (K := ?_)
    obtain ⟨h6, hq, H4⟩ := bd_e H3
    clear H3
    refine ev_callV (M := T11_takeRelease) (pc := 21) (mc := 0) (ms := 0) (st := []) (C5_post hq) md_X5_post im_X5_post se_X5_post ml_X11_408 dX11_takeRelease_21 _ (by decide) (K := ?_)
    refine ev_aload_n (M := T11_takeRelease) (pc := 24) 2 dX11_takeRelease_24 (k := ?_)
    refine ev_getI (M := T11_takeRelease) (pc := 25) (x := h6.1 8 a3 2) fl_X11_250 dX11_takeRelease_25 (K := ?_)
    refine ev_iconst (M := T11_takeRelease) (pc := 28) dX11_takeRelease_28 (k := ?_)
    refine ev_icmpne (M := T11_takeRelease) (pc := 29) 33 dX11_takeRelease_29 (kt := fun hc => ?_) (kf := fun hc => ?_)
    · replace H4 := if_ne hc H4
      refine ev_aload_n (M := T11_takeRelease) (pc := 33) 2 dX11_takeRelease_33 (k := ?_)
      refine ev_getR (M := T11_takeRelease) (pc := 34) (t := 0) (x := Option.map (Prod.mk 0) (h6.2.2 8 a3 3)) fl_X11_352 dX11_takeRelease_34 (hx := ry_8_3 _ _) (K := ?_)
      refine ev_astore (M := T11_takeRelease) (pc := 37) [(4, .inr (.inr (Option.map (Prod.mk 0) (h6.2.2 8 a3 3)))), (0, .inr (.inr (some (11, 0)))), (1, .inr (.inr (some (1, a4)))), (2, .inr (.inr (some (8, a3)))), (3, .inl (l3))] dX11_takeRelease_37 (k := ?_)
      refine ev_aload_n (M := T11_takeRelease) (pc := 39) 3 dX11_takeRelease_39 (k := ?_)
      refine ev_iconst (M := T11_takeRelease) (pc := 40) dX11_takeRelease_40 (k := ?_)
      obtain ⟨h7, eh7, H5⟩ := lt_e H4
      clear H4
      refine ev_putI (M := T11_takeRelease) (pc := 41) j_ok1 fl_X11_250 eh7 dX11_takeRelease_41 (K := ?_)
      refine ev_aload_n (M := T11_takeRelease) (pc := 44) 3 dX11_takeRelease_44 (k := ?_)
      refine ev_null (M := T11_takeRelease) (pc := 45) dX11_takeRelease_45 (k := ?_)
      obtain ⟨h8, eh8, H6⟩ := lt_e H5
      clear H5
      refine ev_putR (M := T11_takeRelease) (pc := 46) (t := 0) j_ok1 none fl_X11_352 eh8 (hdg := dX11_takeRelease_46) (hly := rl_8_3 _) (K := ?_)
      refine ev_aload (M := T11_takeRelease) (pc := 49) 0 dX11_takeRelease_49 (k := ?_)
      refine ev_nullK (M := T11_takeRelease) (pc := 51) (h6.2.2 8 a3 3) 75 dX11_takeRelease_51 (kt := fun hc => ?_) (kf := fun hc => ?_)
      · replace H6 := if_pe hc H6
        cases H6
        exact ev_return (M := T11_takeRelease) (pc := 75) dX11_takeRelease_75
      · replace H6 := if_ne hc H6
        refine ev_aload_n (M := T11_takeRelease) (pc := 54) 1 dX11_takeRelease_54 (k := ?_)
        refine ev_aload (M := T11_takeRelease) (pc := 55) 0 dX11_takeRelease_55 (k := ?_)
        refine ev_iload_n (M := T11_takeRelease) (pc := 57) 4 dX11_takeRelease_57 (k := ?_)
        refine ev_aload (M := T11_takeRelease) (pc := 58) 0 dX11_takeRelease_58 (k := ?_)
        obtain ⟨a9, ea9, H7⟩ := bd_e H6
        clear H6
        rw [ea9]
        refine ev_getR (M := T11_takeRelease) (pc := 60) (t := 8) (x := Option.map (Prod.mk 8) (h8.2.2 0 a9 2)) fl_X11_227 dX11_takeRelease_60 (hx := ry_0_2 _ _) (K := ?_)
        refine ev_aload_n (M := T11_takeRelease) (pc := 63) 3 dX11_takeRelease_63 (k := ?_)
        refine ev_acmpneK (M := T11_takeRelease) (pc := 64) (h8.2.2 0 a9 2) (some a3) 71 dX11_takeRelease_64 (kt := fun hc => ?_) (kf := fun hc => ?_)
        · replace H7 := if_ne hc H7
          refine ev_iconst (M := T11_takeRelease) (pc := 71) dX11_takeRelease_71 (k := ?_)
          refine ev_lv [] [] (k := ?_)
          exact E11_takeRelease_72 (some 0) (some a9) l3 2 h8 _ H7
        · replace H7 := if_pe hc H7
          refine ev_iconst (M := T11_takeRelease) (pc := 67) dX11_takeRelease_67 (k := ?_)
          refine ev_goto (M := T11_takeRelease) (pc := 68) 72 dX11_takeRelease_68 (k := ?_)
          refine ev_lv [] [] (k := ?_)
          exact E11_takeRelease_72 (some 0) (some a9) l3 1 h8 _ H7
    · replace H4 := if_pe hc H4
      cases H4
      exact ev_return (M := T11_takeRelease) (pc := 32) dX11_takeRelease_32
  · replace H1 := if_pe hc H1
    cases H1
    exact ev_return (M := T11_takeRelease) (pc := 7) dX11_takeRelease_7
-- X11_takeSignal
abbrev T11_takeSignal : JT := (RX11, cX11_takeSignal, 6, none, false)
set_option maxRecDepth 100000 in
set_option maxHeartbeats 4000000 in
theorem E11_takeSignal_102 (l5 : Option Int) (h : JM) (res : JM) (H : F11_takeSignal_102 l5 h = some res) : Ev j_W1 5 0 0 T11_takeSignal 102 [(0, .inr (.inr (some (11, 0)))), (5, .inr (.inr (Option.map (Prod.mk 0) (l5))))] [] h none res := by
  unfold F11_takeSignal_102 at H
  refine ev_aload_n (M := T11_takeSignal) (pc := 102) 0 dX11_takeSignal_102 (k := ?_)
  refine ev_aload (M := T11_takeSignal) (pc := 103) 1 dX11_takeSignal_103 (k := ?_)
  refine ev_aload_n (M := T11_takeSignal) (pc := 105) 0 dX11_takeSignal_105 (k := ?_)
  refine ev_aload (M := T11_takeSignal) (pc := 106) 1 dX11_takeSignal_106 (k := ?_)
  obtain ⟨q1, hq, H1⟩ := bd_e H
  clear H
  refine ev_callV (M := T11_takeSignal) (pc := 108) (mc := 0) (ms := 0) (st := [.inr (.inr (Option.map (Prod.mk 0) (l5))), .inr (.inr (some (11, 0)))]) (C11_answer hq) md_X11_answer im_X11_answer se_X11_answer ml_X11_390 dX11_takeSignal_108 _ (by decide) (K := ?_)
  obtain ⟨h2, hq, H2⟩ := bd_e H1
  clear H1
  refine ev_callV (M := T11_takeSignal) (pc := 111) (mc := 0) (ms := 0) (st := []) (C11_endIf hq) md_X11_endIf im_X11_endIf se_X11_endIf ml_X11_394 dX11_takeSignal_111 _ (by decide) (K := ?_)
  refine ev_goto (M := T11_takeSignal) (pc := 114) 146 dX11_takeSignal_114 (k := ?_)
  cases H2
  exact ev_return (M := T11_takeSignal) (pc := 146) dX11_takeSignal_146
set_option maxRecDepth 100000 in
set_option maxHeartbeats 4000000 in
theorem C11_takeSignal {l1 : Option Int} {l2 : Option Int} {l3 : Int} {h : JM} {res : JM} (H : F11_takeSignal l1 l2 l3 h = some res) : Cn j_W1 5 0 0 yX11_takeSignal cX11_takeSignal 6 none [.inr (.inr (some (11, 0))), .inr (.inr (Option.map (Prod.mk 1) (l1))), .inr (.inr (Option.map (Prod.mk 8) (l2))), .inr (.inl (l3))] h none res := by
  refine Cn.by (own := RX11) (b := false) [(0, .inr (.inr (some (11, 0)))), (1, .inr (.inr (Option.map (Prod.mk 1) (l1)))), (2, .inr (.inr (Option.map (Prod.mk 8) (l2)))), (3, .inr (.inl (l3)))] rfl (fun z => by cases z) (by decide +kernel) (K := ?_)
  unfold F11_takeSignal at H
  refine ev_aload_n (M := T11_takeSignal) (pc := 0) 2 dX11_takeSignal_0 (k := ?_)
  obtain ⟨a3, ea3, H1⟩ := bd_e H
  clear H
  rw [ea3]
  refine ev_getR (M := T11_takeSignal) (pc := 1) (t := 0) (x := Option.map (Prod.mk 0) (h.2.2 8 a3 3)) fl_X11_352 dX11_takeSignal_1 (hx := ry_8_3 _ _) (K := ?_)
  refine ev_astore (M := T11_takeSignal) (pc := 4) [(5, .inr (.inr (Option.map (Prod.mk 0) (h.2.2 8 a3 3)))), (0, .inr (.inr (some (11, 0)))), (1, .inr (.inr (Option.map (Prod.mk 1) (l1)))), (2, .inr (.inr (some (8, a3)))), (3, .inr (.inl (l3)))] dX11_takeSignal_4 (k := ?_)
  refine ev_lload_n (M := T11_takeSignal) (pc := 6) 4 dX11_takeSignal_6 (k := ?_)
  obtain ⟨q4, hq, H2⟩ := bd_e H1
  clear H1
  refine ev_callS (M := T11_takeSignal) (pc := 7) (mc := 0) (ms := 0) (st := []) (C9_typeOf hq) md_X9_typeOf ss_X9_typeOf ml_X11_337 dX11_takeSignal_7 _ (by decide) (K := ?_)
  by_cases hs0 : q4.1 = 2
  · replace H2 := if_pe hs0 H2
    refine ev_tableIn (M := T11_takeSignal) (pc := 10) (off := 30) 40 dX11_takeSignal_10 (by omega) (by omega) (by rw [hs0]; rfl) (k := ?_)
    refine ev_aload_n (M := T11_takeSignal) (pc := 40) 3 dX11_takeSignal_40 (k := ?_)
    refine ev_getI (M := T11_takeSignal) (pc := 41) (x := q4.2.1 8 a3 2) fl_X11_250 dX11_takeSignal_41 (K := ?_)
    refine ev_iconst (M := T11_takeSignal) (pc := 44) dX11_takeSignal_44 (k := ?_)
    refine ev_icmpne (M := T11_takeSignal) (pc := 45) 146 dX11_takeSignal_45 (kt := fun hc => ?_) (kf := fun hc => ?_)
    · replace H2 := if_ne hc H2
      cases H2
      exact ev_return (M := T11_takeSignal) (pc := 146) dX11_takeSignal_146
    · replace H2 := if_pe hc H2
      refine ev_aload_n (M := T11_takeSignal) (pc := 48) 3 dX11_takeSignal_48 (k := ?_)
      obtain ⟨q5, hq, H3⟩ := bd_e H2
      clear H2
      refine ev_callV (M := T11_takeSignal) (pc := 49) (mc := 0) (ms := 0) (st := []) (C8_isSent hq) md_X8_isSent im_X8_isSent se_X8_isSent ml_X11_347 dX11_takeSignal_49 _ (by decide) (K := ?_)
      refine ev_ifeq (M := T11_takeSignal) (pc := 52) 146 dX11_takeSignal_52 (kt := fun hc => ?_) (kf := fun hc => ?_)
      · replace H3 := if_pe hc H3
        cases H3
        exact ev_return (M := T11_takeSignal) (pc := 146) dX11_takeSignal_146
      · replace H3 := if_ne hc H3
        refine ev_aload_n (M := T11_takeSignal) (pc := 55) 1 dX11_takeSignal_55 (k := ?_)
        refine ev_aload (M := T11_takeSignal) (pc := 56) 0 dX11_takeSignal_56 (k := ?_)
        refine ev_iconst (M := T11_takeSignal) (pc := 58) dX11_takeSignal_58 (k := ?_)
        obtain ⟨h6, hq, H4⟩ := bd_e H3
        clear H3
        refine ev_callV (M := T11_takeSignal) (pc := 59) (mc := 0) (ms := 0) (st := []) (C11_enter hq) md_X11_enter im_X11_enter se_X11_enter ml_X11_383 dX11_takeSignal_59 _ (by decide) (K := ?_)
        refine ev_aload_n (M := T11_takeSignal) (pc := 62) 1 dX11_takeSignal_62 (k := ?_)
        refine ev_aload (M := T11_takeSignal) (pc := 63) 0 dX11_takeSignal_63 (k := ?_)
        obtain ⟨h7, hq, H5⟩ := bd_e H4
        clear H4
        refine ev_callV (M := T11_takeSignal) (pc := 65) (mc := 0) (ms := 0) (st := []) (C11_announce hq) md_X11_announce im_X11_announce se_X11_announce ml_X11_386 dX11_takeSignal_65 _ (by decide) (K := ?_)
        refine ev_goto (M := T11_takeSignal) (pc := 68) 146 dX11_takeSignal_68 (k := ?_)
        cases H5
        exact ev_return (M := T11_takeSignal) (pc := 146) dX11_takeSignal_146
  · replace H2 := if_ne hs0 H2
    by_cases hs1 : q4.1 = 3
    · replace H2 := if_pe hs1 H2
      refine ev_tableIn (M := T11_takeSignal) (pc := 10) (off := 61) 71 dX11_takeSignal_10 (by omega) (by omega) (by rw [hs1]; rfl) (k := ?_)
      refine ev_aload_n (M := T11_takeSignal) (pc := 71) 3 dX11_takeSignal_71 (k := ?_)
      refine ev_getI (M := T11_takeSignal) (pc := 72) (x := q4.2.1 8 a3 2) fl_X11_250 dX11_takeSignal_72 (K := ?_)
      refine ev_iconst (M := T11_takeSignal) (pc := 75) dX11_takeSignal_75 (k := ?_)
      refine ev_icmpne (M := T11_takeSignal) (pc := 76) 146 dX11_takeSignal_76 (kt := fun hc => ?_) (kf := fun hc => ?_)
      · replace H2 := if_ne hc H2
        cases H2
        exact ev_return (M := T11_takeSignal) (pc := 146) dX11_takeSignal_146
      · replace H2 := if_pe hc H2
        refine ev_aload (M := T11_takeSignal) (pc := 79) 0 dX11_takeSignal_79 (k := ?_)
        refine ev_nullK (M := T11_takeSignal) (pc := 81) (h.2.2 8 a3 3) 146 dX11_takeSignal_81 (kt := fun hc => ?_) (kf := fun hc => ?_)
        · replace H2 := if_pe hc H2
          cases H2
          exact ev_return (M := T11_takeSignal) (pc := 146) dX11_takeSignal_146
        · replace H2 := if_ne hc H2
          refine ev_aload (M := T11_takeSignal) (pc := 84) 0 dX11_takeSignal_84 (k := ?_)
          obtain ⟨a8, ea8, H3⟩ := bd_e H2
          clear H2
          rw [ea8]
          refine ev_getI (M := T11_takeSignal) (pc := 86) (x := q4.2.1 0 a8 9) fl_X11_210 dX11_takeSignal_86 (K := ?_)
          refine ev_iconst (M := T11_takeSignal) (pc := 89) dX11_takeSignal_89 (k := ?_)
          refine ev_icmpeq (M := T11_takeSignal) (pc := 90) 102 dX11_takeSignal_90 (kt := fun hc => ?_) (kf := fun hc => ?_)
          · replace H3 := if_pe hc H3
            refine ev_lv [1, 0] [(0, .inr (.inr (some (11, 0)))), (5, .inr (.inr (some (0, a8))))] (k := ?_)
            exact E11_takeSignal_102 (some a8) q4.2 _ H3
          · replace H3 := if_ne hc H3
            refine ev_aload (M := T11_takeSignal) (pc := 93) 0 dX11_takeSignal_93 (k := ?_)
            refine ev_getI (M := T11_takeSignal) (pc := 95) (x := q4.2.1 0 a8 9) fl_X11_210 dX11_takeSignal_95 (K := ?_)
            refine ev_iconst (M := T11_takeSignal) (pc := 98) dX11_takeSignal_98 (k := ?_)
            refine ev_icmpne (M := T11_takeSignal) (pc := 99) 146 dX11_takeSignal_99 (kt := fun hc => ?_) (kf := fun hc => ?_)
            · replace H3 := if_ne hc H3
              cases H3
              exact ev_return (M := T11_takeSignal) (pc := 146) dX11_takeSignal_146
            · replace H3 := if_pe hc H3
              refine ev_lv [1, 0] [(0, .inr (.inr (some (11, 0)))), (5, .inr (.inr (some (0, a8))))] (k := ?_)
              exact E11_takeSignal_102 (some a8) q4.2 _ H3
    · replace H2 := if_ne hs1 H2
      by_cases hs2 : q4.1 = 4
      · replace H2 := if_pe hs2 H2
        refine ev_tableIn (M := T11_takeSignal) (pc := 10) (off := 107) 117 dX11_takeSignal_10 (by omega) (by omega) (by rw [hs2]; rfl) (k := ?_)
        refine ev_aload_n (M := T11_takeSignal) (pc := 117) 1 dX11_takeSignal_117 (k := ?_)
        refine ev_aload_n (M := T11_takeSignal) (pc := 118) 2 dX11_takeSignal_118 (k := ?_)
        refine ev_aload_n (M := T11_takeSignal) (pc := 119) 3 dX11_takeSignal_119 (k := ?_)
        refine ev_lload_n (M := T11_takeSignal) (pc := 120) 4 dX11_takeSignal_120 (k := ?_)
        obtain ⟨q9, hq, H3⟩ := bd_e H2
        clear H2
        refine ev_callS (M := T11_takeSignal) (pc := 121) (mc := 0) (ms := 0) (st := [.inr (.inr (some (8, a3))), .inr (.inr (Option.map (Prod.mk 1) (l1))), .inr (.inr (some (11, 0)))]) (C9_causeOf hq) md_X9_causeOf ss_X9_causeOf ml_X11_397 dX11_takeSignal_121 _ (by decide) (K := ?_)
        obtain ⟨h10, hq, H4⟩ := bd_e H3
        clear H3
        refine ev_callV (M := T11_takeSignal) (pc := 124) (mc := 0) (ms := 0) (st := []) (C11_takeRelease hq) md_X11_takeRelease im_X11_takeRelease se_X11_takeRelease ml_X11_400 dX11_takeSignal_124 _ (by decide) (K := ?_)
        refine ev_goto (M := T11_takeSignal) (pc := 127) 146 dX11_takeSignal_127 (k := ?_)
        cases H4
        exact ev_return (M := T11_takeSignal) (pc := 146) dX11_takeSignal_146
      · replace H2 := if_ne hs2 H2
        by_cases hs3 : q4.1 = 5
        · replace H2 := if_pe hs3 H2
          refine ev_tableIn (M := T11_takeSignal) (pc := 10) (off := 120) 130 dX11_takeSignal_10 (by omega) (by omega) (by rw [hs3]; rfl) (k := ?_)
          refine ev_aload_n (M := T11_takeSignal) (pc := 130) 3 dX11_takeSignal_130 (k := ?_)
          refine ev_getI (M := T11_takeSignal) (pc := 131) (x := q4.2.1 8 a3 2) fl_X11_250 dX11_takeSignal_131 (K := ?_)
          refine ev_iconst (M := T11_takeSignal) (pc := 134) dX11_takeSignal_134 (k := ?_)
          refine ev_icmpne (M := T11_takeSignal) (pc := 135) 146 dX11_takeSignal_135 (kt := fun hc => ?_) (kf := fun hc => ?_)
          · replace H2 := if_ne hc H2
            cases H2
            exact ev_return (M := T11_takeSignal) (pc := 146) dX11_takeSignal_146
          · replace H2 := if_pe hc H2
            refine ev_aload_n (M := T11_takeSignal) (pc := 138) 3 dX11_takeSignal_138 (k := ?_)
            refine ev_iconst (M := T11_takeSignal) (pc := 139) dX11_takeSignal_139 (k := ?_)
            obtain ⟨h11, eh11, H3⟩ := lt_e H2
            clear H2
            refine ev_putI (M := T11_takeSignal) (pc := 140) j_ok1 fl_X11_250 eh11 dX11_takeSignal_140 (K := ?_)
            refine ev_goto (M := T11_takeSignal) (pc := 143) 146 dX11_takeSignal_143 (k := ?_)
            cases H3
            exact ev_return (M := T11_takeSignal) (pc := 146) dX11_takeSignal_146
        · replace H2 := if_ne hs3 H2
          refine ev_tableOut (M := T11_takeSignal) (pc := 10) 146 dX11_takeSignal_10 (by omega) (k := ?_)
          cases H2
          exact ev_return (M := T11_takeSignal) (pc := 146) dX11_takeSignal_146
-- X11_takeUnits
abbrev T11_takeUnits : JT := (RX11, cX11_takeUnits, 7, none, false)
set_option maxRecDepth 100000 in
set_option maxHeartbeats 4000000 in
theorem E11_takeUnits_129 (k2 : Int → JM → Option JM) (hk2 : ∀ (l1 : Int) (h : JM) (res : JM), k2 l1 h = some res → Ev j_W1 6 0 0 T11_takeUnits 2 [(0, .inr (.inr (some (11, 0)))), (1, .inl (l1))] [] h none res) (l1 : Int) (h : JM) (res : JM) (H : F11_takeUnits_129 k2 l1 h = some res) : Ev j_W1 6 0 0 T11_takeUnits 129 [(0, .inr (.inr (some (11, 0)))), (1, .inl (l1))] [] h none res := by
  unfold F11_takeUnits_129 at H
  refine ev_iinc (M := T11_takeUnits) (pc := 129) 1 [(1, .inl (w32 (l1 + 1))), (0, .inr (.inr (some (11, 0))))] dX11_takeUnits_129 (k := ?_)
  refine ev_goto (M := T11_takeUnits) (pc := 132) 2 dX11_takeUnits_132 (k := ?_)
  refine ev_lv [1, 0] [(0, .inr (.inr (some (11, 0)))), (1, .inl (w32 (l1 + 1)))] (k := ?_)
  exact hk2 (w32 (l1 + 1)) h _ H
set_option maxRecDepth 100000 in
set_option maxHeartbeats 4000000 in
theorem E11_takeUnits_2b (k2 : Int → JM → Option JM) (hk2 : ∀ (l1 : Int) (h : JM) (res : JM), k2 l1 h = some res → Ev j_W1 6 0 0 T11_takeUnits 2 [(0, .inr (.inr (some (11, 0)))), (1, .inl (l1))] [] h none res) (l1 : Int) (h : JM) (res : JM) (H : F11_takeUnits_2b k2 l1 h = some res) : Ev j_W1 6 0 0 T11_takeUnits 2 [(0, .inr (.inr (some (11, 0)))), (1, .inl (l1))] [] h none res := by
  unfold F11_takeUnits_2b at H
  refine ev_iload_n (M := T11_takeUnits) (pc := 2) 1 dX11_takeUnits_2 (k := ?_)
  refine ev_iconst (M := T11_takeUnits) (pc := 3) dX11_takeUnits_3 (k := ?_)
  refine ev_icmpge (M := T11_takeUnits) (pc := 4) 135 dX11_takeUnits_4 (kt := fun hc => ?_) (kf := fun hc => ?_)
  · replace H := if_pe hc H
    cases H
    exact ev_return (M := T11_takeUnits) (pc := 135) dX11_takeUnits_135
  · replace H := if_ne hc H
    refine ev_aload_n (M := T11_takeUnits) (pc := 7) 0 dX11_takeUnits_7 (k := ?_)
    refine ev_getR (M := T11_takeUnits) (pc := 8) (t := 38) (x := some (38, 0)) fl_X11_11 dX11_takeUnits_8 (hx := ry_11_2 _ _) (K := ?_)
    refine ev_iconst (M := T11_takeUnits) (pc := 11) dX11_takeUnits_11 (k := ?_)
    refine ev_iload_n (M := T11_takeUnits) (pc := 12) 1 dX11_takeUnits_12 (k := ?_)
    refine ev_isub (M := T11_takeUnits) (pc := 13) dX11_takeUnits_13 (k := ?_)
    obtain ⟨⟨hi0, hi1⟩, H1⟩ := g_e H
    clear H
    refine ev_aaload (M := T11_takeUnits) (pc := 14) (k := 38) 1 (x := some (1, (w32 (1 - l1)))) hi0 hi1 dX11_takeUnits_14 (hc := ac_38) (hlen := ln_38 _ _) (hx := rz_38 _ _ _) (K := ?_)
    refine ev_getR (M := T11_takeUnits) (pc := 15) (t := 5) (x := some (5, (w32 (1 - l1)))) fl_X11_261 dX11_takeUnits_15 (hx := ry_1_7 _ _) (K := ?_)
    refine ev_getR (M := T11_takeUnits) (pc := 18) (t := 33) (x := some (33, (w32 (1 - l1)))) fl_X11_323 dX11_takeUnits_18 (hx := ry_5_10 _ _) (K := ?_)
    refine ev_aload_n (M := T11_takeUnits) (pc := 21) 0 dX11_takeUnits_21 (k := ?_)
    refine ev_getI (M := T11_takeUnits) (pc := 22) (x := h.1 11 0 10) fl_X11_177 dX11_takeUnits_22 (K := ?_)
    refine ev_iconst (M := T11_takeUnits) (pc := 25) dX11_takeUnits_25 (k := ?_)
    refine ev_iand (M := T11_takeUnits) (pc := 26) dX11_takeUnits_26 (k := ?_)
    obtain ⟨⟨hi0, hi1⟩, H2⟩ := g_e H1
    clear H1
    refine ev_aaload (M := T11_takeUnits) (pc := 27) (k := 33) 9 (x := some (9, (128 + 2 * (w32 (1 - l1)) + (j_and (h.1 11 0 10) 1)))) hi0 hi1 dX11_takeUnits_27 (hc := ac_33) (hlen := ln_33 _ _) (hx := rz_33 _ _ _) (K := ?_)
    refine ev_astore_n (M := T11_takeUnits) (pc := 28) [(2, .inr (.inr (some (9, (128 + 2 * (w32 (1 - l1)) + (j_and (h.1 11 0 10) 1)))))), (0, .inr (.inr (some (11, 0)))), (1, .inl (l1))] dX11_takeUnits_28 (k := ?_)
    refine ev_aload_n (M := T11_takeUnits) (pc := 29) 1 dX11_takeUnits_29 (k := ?_)
    refine ev_getR (M := T11_takeUnits) (pc := 30) (t := 38) (x := some (38, 0)) fl_X11_11 dX11_takeUnits_30 (hx := ry_11_2 _ _) (K := ?_)
    refine ev_iload_n (M := T11_takeUnits) (pc := 33) 2 dX11_takeUnits_33 (k := ?_)
    obtain ⟨⟨hi0, hi1⟩, H3⟩ := g_e H2
    clear H2
    refine ev_aaload (M := T11_takeUnits) (pc := 34) (k := 38) 1 (x := some (1, l1)) hi0 hi1 dX11_takeUnits_34 (hc := ac_38) (hlen := ln_38 _ _) (hx := rz_38 _ _ _) (K := ?_)
    refine ev_getR (M := T11_takeUnits) (pc := 35) (t := 5) (x := some (5, l1)) fl_X11_261 dX11_takeUnits_35 (hx := ry_1_7 _ _) (K := ?_)
    refine ev_aload_n (M := T11_takeUnits) (pc := 38) 0 dX11_takeUnits_38 (k := ?_)
    obtain ⟨q1, hq, H4⟩ := bd_e H3
    clear H3
    refine ev_callV (M := T11_takeUnits) (pc := 39) (mc := 0) (ms := 0) (st := []) (C5_take hq) md_X5_take im_X5_take se_X5_take ml_X11_326 dX11_takeUnits_39 _ (by decide) (K := ?_)
    refine ev_lstore_n (M := T11_takeUnits) (pc := 42) [(3, .inr (.inl (q1.1))), (2, .inr (.inr (some (9, (128 + 2 * (w32 (1 - l1)) + (j_and (h.1 11 0 10) 1)))))), (0, .inr (.inr (some (11, 0)))), (1, .inl (l1))] dX11_takeUnits_42 (k := ?_)
    refine ev_lload_n (M := T11_takeUnits) (pc := 43) 0 dX11_takeUnits_43 (k := ?_)
    refine ev_ldc2 (M := T11_takeUnits) (pc := 44) (n := (-1)) cl_X11_330 dX11_takeUnits_44 (hv := cw_X11_330) (k := ?_)
    refine ev_lcmp (M := T11_takeUnits) (pc := 47) dX11_takeUnits_47 (k := ?_)
    refine ev_ifeq (M := T11_takeUnits) (pc := 48) 129 dX11_takeUnits_48 (kt := fun hc => ?_) (kf := fun hc => ?_)
    · replace H4 := if_pe hc H4
      refine ev_lv [2, 3] [(0, .inr (.inr (some (11, 0)))), (1, .inl (l1))] (k := ?_)
      exact E11_takeUnits_129 k2 hk2 l1 q1.2 _ H4
    · replace H4 := if_ne hc H4
      refine ev_lload_n (M := T11_takeUnits) (pc := 51) 0 dX11_takeUnits_51 (k := ?_)
      refine ev_lconst (M := T11_takeUnits) (pc := 52) (v := 0) dX11_takeUnits_52 (k := ?_)
      refine ev_lcmp (M := T11_takeUnits) (pc := 53) dX11_takeUnits_53 (k := ?_)
      refine ev_ifne (M := T11_takeUnits) (pc := 54) 60 dX11_takeUnits_54 (kt := fun hc => ?_) (kf := fun hc => ?_)
      · replace H4 := if_ne hc H4
        refine ev_lload_n (M := T11_takeUnits) (pc := 60) 0 dX11_takeUnits_60 (k := ?_)
        obtain ⟨q2, hq, H5⟩ := bd_e H4
        clear H4
        refine ev_callS (M := T11_takeUnits) (pc := 61) (mc := 0) (ms := 0) (st := []) (C9_circuitOf hq) md_X9_circuitOf ss_X9_circuitOf ml_X11_332 dX11_takeUnits_61 _ (by decide) (K := ?_)
        refine ev_istore (M := T11_takeUnits) (pc := 64) [(5, .inl (q2.1)), (3, .inr (.inl (q1.1))), (2, .inr (.inr (some (9, (128 + 2 * (w32 (1 - l1)) + (j_and (h.1 11 0 10) 1)))))), (0, .inr (.inr (some (11, 0)))), (1, .inl (l1))] dX11_takeUnits_64 (k := ?_)
        refine ev_iload (M := T11_takeUnits) (pc := 66) 0 dX11_takeUnits_66 (k := ?_)
        refine ev_aload_n (M := T11_takeUnits) (pc := 68) 3 dX11_takeUnits_68 (k := ?_)
        refine ev_getI (M := T11_takeUnits) (pc := 69) (x := q2.2.1 11 0 0) fl_X11_55 dX11_takeUnits_69 (K := ?_)
        refine ev_icmplt (M := T11_takeUnits) (pc := 72) 78 dX11_takeUnits_72 (kt := fun hc => ?_) (kf := fun hc => ?_)
        · replace H5 := if_pe hc H5
          refine ev_aload_n (M := T11_takeUnits) (pc := 78) 3 dX11_takeUnits_78 (k := ?_)
          refine ev_getR (M := T11_takeUnits) (pc := 79) (t := 38) (x := some (38, 0)) fl_X11_11 dX11_takeUnits_79 (hx := ry_11_2 _ _) (K := ?_)
          refine ev_iload_n (M := T11_takeUnits) (pc := 82) 4 dX11_takeUnits_82 (k := ?_)
          obtain ⟨⟨hi0, hi1⟩, H6⟩ := g_e H5
          clear H5
          refine ev_aaload (M := T11_takeUnits) (pc := 83) (k := 38) 1 (x := some (1, l1)) hi0 hi1 dX11_takeUnits_83 (hc := ac_38) (hlen := ln_38 _ _) (hx := rz_38 _ _ _) (K := ?_)
          refine ev_getR (M := T11_takeUnits) (pc := 84) (t := 20) (x := some (20, l1)) fl_X11_65 dX11_takeUnits_84 (hx := ry_1_1 _ _) (K := ?_)
          refine ev_iload (M := T11_takeUnits) (pc := 87) 0 dX11_takeUnits_87 (k := ?_)
          obtain ⟨⟨hi0, hi1⟩, H7⟩ := g_e H6
          clear H6
          refine ev_aaload (M := T11_takeUnits) (pc := 89) (k := 20) 8 (x := some (8, (16 * l1 + q2.1))) hi0 hi1 dX11_takeUnits_89 (hc := ac_20) (hlen := ln_20 _ _) (hx := rz_20 _ _ _) (K := ?_)
          refine ev_astore (M := T11_takeUnits) (pc := 90) [(6, .inr (.inr (some (8, (16 * l1 + q2.1))))), (5, .inl (q2.1)), (3, .inr (.inl (q1.1))), (2, .inr (.inr (some (9, (128 + 2 * (w32 (1 - l1)) + (j_and (h.1 11 0 10) 1)))))), (0, .inr (.inr (some (11, 0)))), (1, .inl (l1))] dX11_takeUnits_90 (k := ?_)
          refine ev_lload_n (M := T11_takeUnits) (pc := 92) 2 dX11_takeUnits_92 (k := ?_)
          obtain ⟨q3, hq, H8⟩ := bd_e H7
          clear H7
          refine ev_callS (M := T11_takeUnits) (pc := 93) (mc := 0) (ms := 0) (st := []) (C9_typeOf hq) md_X9_typeOf ss_X9_typeOf ml_X11_337 dX11_takeUnits_93 _ (by decide) (K := ?_)
          refine ev_iconst (M := T11_takeUnits) (pc := 96) dX11_takeUnits_96 (k := ?_)
          refine ev_icmpne (M := T11_takeUnits) (pc := 97) 116 dX11_takeUnits_97 (kt := fun hc => ?_) (kf := fun hc => ?_)
          · replace H8 := if_ne hc H8
            refine ev_aload_n (M := T11_takeUnits) (pc := 116) 4 dX11_takeUnits_116 (k := ?_)
            refine ev_aload_n (M := T11_takeUnits) (pc := 117) 4 dX11_takeUnits_117 (k := ?_)
            refine ev_getR (M := T11_takeUnits) (pc := 118) (t := 38) (x := some (38, 0)) fl_X11_11 dX11_takeUnits_118 (hx := ry_11_2 _ _) (K := ?_)
            refine ev_iload_n (M := T11_takeUnits) (pc := 121) 5 dX11_takeUnits_121 (k := ?_)
            obtain ⟨⟨hi0, hi1⟩, H9⟩ := g_e H8
            clear H8
            refine ev_aaload (M := T11_takeUnits) (pc := 122) (k := 38) 1 (x := some (1, l1)) hi0 hi1 dX11_takeUnits_122 (hc := ac_38) (hlen := ln_38 _ _) (hx := rz_38 _ _ _) (K := ?_)
            refine ev_aload (M := T11_takeUnits) (pc := 123) 0 dX11_takeUnits_123 (k := ?_)
            refine ev_lload_n (M := T11_takeUnits) (pc := 125) 2 dX11_takeUnits_125 (k := ?_)
            obtain ⟨h4, hq, H10⟩ := bd_e H9
            clear H9
            refine ev_callV (M := T11_takeUnits) (pc := 126) (mc := 0) (ms := 0) (st := []) (C11_takeSignal hq) md_X11_takeSignal im_X11_takeSignal se_X11_takeSignal ml_X11_344 dX11_takeUnits_126 _ (by decide) (K := ?_)
            refine ev_lv [4, 5] [(0, .inr (.inr (some (11, 0)))), (1, .inl (l1))] (k := ?_)
            exact E11_takeUnits_129 k2 hk2 l1 h4 _ H10
          · replace H8 := if_pe hc H8
            refine ev_aload_n (M := T11_takeUnits) (pc := 100) 4 dX11_takeUnits_100 (k := ?_)
            refine ev_aload_n (M := T11_takeUnits) (pc := 101) 4 dX11_takeUnits_101 (k := ?_)
            refine ev_getR (M := T11_takeUnits) (pc := 102) (t := 38) (x := some (38, 0)) fl_X11_11 dX11_takeUnits_102 (hx := ry_11_2 _ _) (K := ?_)
            refine ev_iload_n (M := T11_takeUnits) (pc := 105) 5 dX11_takeUnits_105 (k := ?_)
            obtain ⟨⟨hi0, hi1⟩, H9⟩ := g_e H8
            clear H8
            refine ev_aaload (M := T11_takeUnits) (pc := 106) (k := 38) 1 (x := some (1, l1)) hi0 hi1 dX11_takeUnits_106 (hc := ac_38) (hlen := ln_38 _ _) (hx := rz_38 _ _ _) (K := ?_)
            refine ev_aload (M := T11_takeUnits) (pc := 107) 0 dX11_takeUnits_107 (k := ?_)
            refine ev_lload_n (M := T11_takeUnits) (pc := 109) 2 dX11_takeUnits_109 (k := ?_)
            obtain ⟨h5, hq, H10⟩ := bd_e H9
            clear H9
            refine ev_callV (M := T11_takeUnits) (pc := 110) (mc := 0) (ms := 0) (st := []) (C11_takeIam hq) md_X11_takeIam im_X11_takeIam se_X11_takeIam ml_X11_340 dX11_takeUnits_110 _ (by decide) (K := ?_)
            refine ev_goto (M := T11_takeUnits) (pc := 113) 129 dX11_takeUnits_113 (k := ?_)
            refine ev_lv [4, 5] [(0, .inr (.inr (some (11, 0)))), (1, .inl (l1))] (k := ?_)
            exact E11_takeUnits_129 k2 hk2 l1 h5 _ H10
        · replace H5 := if_ne hc H5
          refine ev_goto (M := T11_takeUnits) (pc := 75) 129 dX11_takeUnits_75 (k := ?_)
          refine ev_lv [3, 4] [(0, .inr (.inr (some (11, 0)))), (1, .inl (l1))] (k := ?_)
          exact E11_takeUnits_129 k2 hk2 l1 q2.2 _ H5
      · replace H4 := if_pe hc H4
        refine ev_goto (M := T11_takeUnits) (pc := 57) 129 dX11_takeUnits_57 (k := ?_)
        refine ev_lv [2, 3] [(0, .inr (.inr (some (11, 0)))), (1, .inl (l1))] (k := ?_)
        exact E11_takeUnits_129 k2 hk2 l1 q1.2 _ H4
theorem E11_takeUnits_2 (n : Nat) : ∀ (l1 : Int) (h : JM) (res : JM), F11_takeUnits_2 n l1 h = some res → Ev j_W1 6 0 0 T11_takeUnits 2 [(0, .inr (.inr (some (11, 0)))), (1, .inl (l1))] [] h none res := by
  induction n with
  | zero =>
    intro l1 h res H
    cases H
  | succ n ih =>
    intro l1 h res H
    exact E11_takeUnits_2b (F11_takeUnits_2 n) ih l1 h res H
set_option maxRecDepth 100000 in
set_option maxHeartbeats 4000000 in
theorem C11_takeUnits {h : JM} {res : JM} (H : F11_takeUnits h = some res) : Cn j_W1 6 0 0 yX11_takeUnits cX11_takeUnits 7 none [.inr (.inr (some (11, 0)))] h none res := by
  refine Cn.by (own := RX11) (b := false) [(0, .inr (.inr (some (11, 0))))] rfl (fun z => by cases z) (by decide +kernel) (K := ?_)
  unfold F11_takeUnits at H
  refine ev_iconst (M := T11_takeUnits) (pc := 0) dX11_takeUnits_0 (k := ?_)
  refine ev_istore_n (M := T11_takeUnits) (pc := 1) [(1, .inl (0)), (0, .inr (.inr (some (11, 0))))] dX11_takeUnits_1 (k := ?_)
  refine ev_lv [1, 0] [(0, .inr (.inr (some (11, 0)))), (1, .inl (0))] (k := ?_)
  exact E11_takeUnits_2 j_fu 0 h _ H
-- X11_tariff
abbrev T11_tariff : JT := (RX11, cX11_tariff, 6, some .int, false)
set_option maxRecDepth 100000 in
set_option maxHeartbeats 4000000 in
theorem E11_tariff_55 (h : JM) (res : (Int × JM)) (H : F11_tariff_55 h = some res) : Ev j_W1 2 0 0 T11_tariff 55 [] [] h (some (.inl res.1)) res.2 := by
  unfold F11_tariff_55 at H
  refine ev_bipush (M := T11_tariff) (pc := 55) dX11_tariff_55 (k := ?_)
  cases H
  exact ev_ireturn (M := T11_tariff) (pc := 57) dX11_tariff_57
set_option maxRecDepth 100000 in
set_option maxHeartbeats 4000000 in
theorem C11_tariff {l1 : Int} {l2 : Int} {l3 : Int} {l4 : Int} {l5 : Int} {h : JM} {res : (Int × JM)} (H : F11_tariff l1 l2 l3 l4 l5 h = some res) : Cn j_W1 2 0 0 yX11_tariff cX11_tariff 6 (some .int) [.inr (.inr (some (11, 0))), .inl (l1), .inl (l2), .inl (l3), .inl (l4), .inl (l5)] h (some (.inl res.1)) res.2 := by
  refine Cn.by (own := RX11) (b := false) [(0, .inr (.inr (some (11, 0)))), (1, .inl (l1)), (2, .inl (l2)), (3, .inl (l3)), (4, .inl (l4)), (5, .inl (l5))] rfl (fun z => by cases z) (by decide +kernel) (K := ?_)
  unfold F11_tariff at H
  refine ev_iload_n (M := T11_tariff) (pc := 0) 1 dX11_tariff_0 (k := ?_)
  refine ev_iconst (M := T11_tariff) (pc := 1) dX11_tariff_1 (k := ?_)
  refine ev_iconst (M := T11_tariff) (pc := 2) dX11_tariff_2 (k := ?_)
  obtain ⟨q1, hq, H1⟩ := bd_e H
  clear H
  refine ev_callS (M := T11_tariff) (pc := 3) (mc := 0) (ms := 0) (st := []) (C11_isWithin hq) md_X11_isWithin ss_X11_isWithin ml_X11_79 dX11_tariff_3 _ (by decide) (K := ?_)
  refine ev_ifeq (M := T11_tariff) (pc := 6) 55 dX11_tariff_6 (kt := fun hc => ?_) (kf := fun hc => ?_)
  · replace H1 := if_pe hc H1
    refine ev_lv [] [] (k := ?_)
    exact E11_tariff_55 q1.2 _ H1
  · replace H1 := if_ne hc H1
    refine ev_iload_n (M := T11_tariff) (pc := 9) 2 dX11_tariff_9 (k := ?_)
    refine ev_iconst (M := T11_tariff) (pc := 10) dX11_tariff_10 (k := ?_)
    refine ev_sipush (M := T11_tariff) (pc := 11) dX11_tariff_11 (k := ?_)
    obtain ⟨q2, hq, H2⟩ := bd_e H1
    clear H1
    refine ev_callS (M := T11_tariff) (pc := 14) (mc := 0) (ms := 0) (st := []) (C11_isWithin hq) md_X11_isWithin ss_X11_isWithin ml_X11_79 dX11_tariff_14 _ (by decide) (K := ?_)
    refine ev_ifeq (M := T11_tariff) (pc := 17) 55 dX11_tariff_17 (kt := fun hc => ?_) (kf := fun hc => ?_)
    · replace H2 := if_pe hc H2
      refine ev_lv [] [] (k := ?_)
      exact E11_tariff_55 q2.2 _ H2
    · replace H2 := if_ne hc H2
      refine ev_iload_n (M := T11_tariff) (pc := 20) 3 dX11_tariff_20 (k := ?_)
      refine ev_iconst (M := T11_tariff) (pc := 21) dX11_tariff_21 (k := ?_)
      refine ev_sipush (M := T11_tariff) (pc := 22) dX11_tariff_22 (k := ?_)
      obtain ⟨q3, hq, H3⟩ := bd_e H2
      clear H2
      refine ev_callS (M := T11_tariff) (pc := 25) (mc := 0) (ms := 0) (st := []) (C11_isWithin hq) md_X11_isWithin ss_X11_isWithin ml_X11_79 dX11_tariff_25 _ (by decide) (K := ?_)
      refine ev_ifeq (M := T11_tariff) (pc := 28) 55 dX11_tariff_28 (kt := fun hc => ?_) (kf := fun hc => ?_)
      · replace H3 := if_pe hc H3
        refine ev_lv [] [] (k := ?_)
        exact E11_tariff_55 q3.2 _ H3
      · replace H3 := if_ne hc H3
        refine ev_iload (M := T11_tariff) (pc := 31) 4 dX11_tariff_31 (k := ?_)
        refine ev_iconst (M := T11_tariff) (pc := 33) dX11_tariff_33 (k := ?_)
        refine ev_sipush (M := T11_tariff) (pc := 34) dX11_tariff_34 (k := ?_)
        obtain ⟨q4, hq, H4⟩ := bd_e H3
        clear H3
        refine ev_callS (M := T11_tariff) (pc := 37) (mc := 0) (ms := 0) (st := []) (C11_isWithin hq) md_X11_isWithin ss_X11_isWithin ml_X11_79 dX11_tariff_37 _ (by decide) (K := ?_)
        refine ev_ifeq (M := T11_tariff) (pc := 40) 55 dX11_tariff_40 (kt := fun hc => ?_) (kf := fun hc => ?_)
        · replace H4 := if_pe hc H4
          refine ev_lv [] [] (k := ?_)
          exact E11_tariff_55 q4.2 _ H4
        · replace H4 := if_ne hc H4
          refine ev_iload (M := T11_tariff) (pc := 43) 5 dX11_tariff_43 (k := ?_)
          refine ev_iconst (M := T11_tariff) (pc := 45) dX11_tariff_45 (k := ?_)
          refine ev_sipush (M := T11_tariff) (pc := 46) dX11_tariff_46 (k := ?_)
          obtain ⟨q5, hq, H5⟩ := bd_e H4
          clear H4
          refine ev_callS (M := T11_tariff) (pc := 49) (mc := 0) (ms := 0) (st := []) (C11_isWithin hq) md_X11_isWithin ss_X11_isWithin ml_X11_79 dX11_tariff_49 _ (by decide) (K := ?_)
          refine ev_ifne (M := T11_tariff) (pc := 52) 58 dX11_tariff_52 (kt := fun hc => ?_) (kf := fun hc => ?_)
          · replace H5 := if_ne hc H5
            refine ev_aload_n (M := T11_tariff) (pc := 58) 0 dX11_tariff_58 (k := ?_)
            refine ev_getR (M := T11_tariff) (pc := 59) (t := 3) (x := some (3, 0)) fl_X11_30 dX11_tariff_59 (hx := ry_11_5 _ _) (K := ?_)
            refine ev_iload_n (M := T11_tariff) (pc := 62) 1 dX11_tariff_62 (k := ?_)
            refine ev_iload_n (M := T11_tariff) (pc := 63) 2 dX11_tariff_63 (k := ?_)
            refine ev_iload_n (M := T11_tariff) (pc := 64) 3 dX11_tariff_64 (k := ?_)
            refine ev_iload (M := T11_tariff) (pc := 65) 4 dX11_tariff_65 (k := ?_)
            refine ev_iload (M := T11_tariff) (pc := 67) 5 dX11_tariff_67 (k := ?_)
            obtain ⟨h6, hq, H6⟩ := bd_e H5
            clear H5
            refine ev_callV (M := T11_tariff) (pc := 69) (mc := 0) (ms := 0) (st := []) (C3_setTariff hq) md_X3_setTariff im_X3_setTariff se_X3_setTariff ml_X11_145 dX11_tariff_69 _ (by decide) (K := ?_)
            refine ev_iconst (M := T11_tariff) (pc := 72) dX11_tariff_72 (k := ?_)
            cases H6
            exact ev_ireturn (M := T11_tariff) (pc := 73) dX11_tariff_73
          · replace H5 := if_pe hc H5
            refine ev_lv [] [] (k := ?_)
            exact E11_tariff_55 q5.2 _ H5
-- X11_watchLines
abbrev T11_watchLines : JT := (RX11, cX11_watchLines, 5, none, false)
set_option maxRecDepth 100000 in
set_option maxHeartbeats 4000000 in
theorem E11_watchLines_75 (k2 : Int → JM → Option JM) (hk2 : ∀ (l1 : Int) (h : JM) (res : JM), k2 l1 h = some res → Ev j_W1 6 0 0 T11_watchLines 2 [(0, .inr (.inr (some (11, 0)))), (1, .inl (l1))] [] h none res) (l1 : Int) (h : JM) (res : JM) (H : F11_watchLines_75 k2 l1 h = some res) : Ev j_W1 6 0 0 T11_watchLines 75 [(0, .inr (.inr (some (11, 0)))), (1, .inl (l1))] [] h none res := by
  unfold F11_watchLines_75 at H
  refine ev_iinc (M := T11_watchLines) (pc := 75) 1 [(1, .inl (w32 (l1 + 1))), (0, .inr (.inr (some (11, 0))))] dX11_watchLines_75 (k := ?_)
  refine ev_goto (M := T11_watchLines) (pc := 78) 2 dX11_watchLines_78 (k := ?_)
  refine ev_lv [1, 0] [(0, .inr (.inr (some (11, 0)))), (1, .inl (w32 (l1 + 1)))] (k := ?_)
  exact hk2 (w32 (l1 + 1)) h _ H
set_option maxRecDepth 100000 in
set_option maxHeartbeats 4000000 in
theorem E11_watchLines_56 (k2 : Int → JM → Option JM) (hk2 : ∀ (l1 : Int) (h : JM) (res : JM), k2 l1 h = some res → Ev j_W1 6 0 0 T11_watchLines 2 [(0, .inr (.inr (some (11, 0)))), (1, .inl (l1))] [] h none res) (l1 : Int) (l2 : Option Int) (h : JM) (res : JM) (H : F11_watchLines_56 k2 l1 l2 h = some res) : Ev j_W1 6 0 0 T11_watchLines 56 [(0, .inr (.inr (some (11, 0)))), (1, .inl (l1)), (2, .inr (.inr (Option.map (Prod.mk 4) (l2))))] [] h none res := by
  unfold F11_watchLines_56 at H
  refine ev_aload_n (M := T11_watchLines) (pc := 56) 2 dX11_watchLines_56 (k := ?_)
  obtain ⟨a1, ea1, H1⟩ := bd_e H
  clear H
  rw [ea1]
  obtain ⟨q2, hq, H2⟩ := bd_e H1
  clear H1
  refine ev_callV (M := T11_watchLines) (pc := 57) (mc := 0) (ms := 0) (st := []) (C4_keyOfThisTick hq) md_X4_keyOfThisTick im_X4_keyOfThisTick se_X4_keyOfThisTick ml_X11_425 dX11_watchLines_57 _ (by decide) (K := ?_)
  refine ev_istore (M := T11_watchLines) (pc := 60) [(4, .inl (q2.1)), (0, .inr (.inr (some (11, 0)))), (1, .inl (l1)), (2, .inr (.inr (some (4, a1))))] dX11_watchLines_60 (k := ?_)
  refine ev_iload (M := T11_watchLines) (pc := 62) 0 dX11_watchLines_62 (k := ?_)
  refine ev_iconst (M := T11_watchLines) (pc := 64) dX11_watchLines_64 (k := ?_)
  refine ev_icmpeq (M := T11_watchLines) (pc := 65) 75 dX11_watchLines_65 (kt := fun hc => ?_) (kf := fun hc => ?_)
  · replace H2 := if_pe hc H2
    refine ev_lv [1, 2] [(0, .inr (.inr (some (11, 0)))), (1, .inl (l1))] (k := ?_)
    exact E11_watchLines_75 k2 hk2 l1 q2.2 _ H2
  · replace H2 := if_ne hc H2
    refine ev_aload_n (M := T11_watchLines) (pc := 68) 1 dX11_watchLines_68 (k := ?_)
    refine ev_aload_n (M := T11_watchLines) (pc := 69) 3 dX11_watchLines_69 (k := ?_)
    refine ev_iload (M := T11_watchLines) (pc := 70) 0 dX11_watchLines_70 (k := ?_)
    obtain ⟨h3, hq, H3⟩ := bd_e H2
    clear H2
    refine ev_callV (M := T11_watchLines) (pc := 72) (mc := 0) (ms := 0) (st := []) (C11_takeKey hq) md_X11_takeKey im_X11_takeKey se_X11_takeKey ml_X11_428 dX11_watchLines_72 _ (by decide) (K := ?_)
    refine ev_lv [1, 2] [(0, .inr (.inr (some (11, 0)))), (1, .inl (l1))] (k := ?_)
    exact E11_watchLines_75 k2 hk2 l1 h3 _ H3
set_option maxRecDepth 100000 in
set_option maxHeartbeats 4000000 in
theorem E11_watchLines_2b (k2 : Int → JM → Option JM) (hk2 : ∀ (l1 : Int) (h : JM) (res : JM), k2 l1 h = some res → Ev j_W1 6 0 0 T11_watchLines 2 [(0, .inr (.inr (some (11, 0)))), (1, .inl (l1))] [] h none res) (l1 : Int) (h : JM) (res : JM) (H : F11_watchLines_2b k2 l1 h = some res) : Ev j_W1 6 0 0 T11_watchLines 2 [(0, .inr (.inr (some (11, 0)))), (1, .inl (l1))] [] h none res := by
  unfold F11_watchLines_2b at H
  refine ev_iload_n (M := T11_watchLines) (pc := 2) 1 dX11_watchLines_2 (k := ?_)
  refine ev_bipush (M := T11_watchLines) (pc := 3) dX11_watchLines_3 (k := ?_)
  refine ev_icmpge (M := T11_watchLines) (pc := 5) 81 dX11_watchLines_5 (kt := fun hc => ?_) (kf := fun hc => ?_)
  · replace H := if_pe hc H
    cases H
    exact ev_return (M := T11_watchLines) (pc := 81) dX11_watchLines_81
  · replace H := if_ne hc H
    refine ev_aload_n (M := T11_watchLines) (pc := 8) 0 dX11_watchLines_8 (k := ?_)
    refine ev_getR (M := T11_watchLines) (pc := 9) (t := 39) (x := some (39, 0)) fl_X11_17 dX11_watchLines_9 (hx := ry_11_3 _ _) (K := ?_)
    refine ev_iload_n (M := T11_watchLines) (pc := 12) 1 dX11_watchLines_12 (k := ?_)
    obtain ⟨⟨hi0, hi1⟩, H1⟩ := g_e H
    clear H
    refine ev_aaload (M := T11_watchLines) (pc := 13) (k := 39) 4 (x := some (4, l1)) hi0 hi1 dX11_watchLines_13 (hc := ac_39) (hlen := ln_39 _ _) (hx := rz_39 _ _ _) (K := ?_)
    refine ev_astore_n (M := T11_watchLines) (pc := 14) [(2, .inr (.inr (some (4, l1)))), (0, .inr (.inr (some (11, 0)))), (1, .inl (l1))] dX11_watchLines_14 (k := ?_)
    refine ev_aload_n (M := T11_watchLines) (pc := 15) 0 dX11_watchLines_15 (k := ?_)
    obtain ⟨q4, hq, H2⟩ := bd_e H1
    clear H1
    refine ev_callV (M := T11_watchLines) (pc := 16) (mc := 0) (ms := 0) (st := []) (C4_lookAtLoop hq) md_X4_lookAtLoop im_X4_lookAtLoop se_X4_lookAtLoop ml_X11_412 dX11_watchLines_16 _ (by decide) (K := ?_)
    refine ev_istore_n (M := T11_watchLines) (pc := 19) [(3, .inl (q4.1)), (2, .inr (.inr (some (4, l1)))), (0, .inr (.inr (some (11, 0)))), (1, .inl (l1))] dX11_watchLines_19 (k := ?_)
    refine ev_iload_n (M := T11_watchLines) (pc := 20) 0 dX11_watchLines_20 (k := ?_)
    refine ev_iconst (M := T11_watchLines) (pc := 21) dX11_watchLines_21 (k := ?_)
    refine ev_icmpne (M := T11_watchLines) (pc := 22) 33 dX11_watchLines_22 (kt := fun hc => ?_) (kf := fun hc => ?_)
    · replace H2 := if_ne hc H2
      refine ev_iload_n (M := T11_watchLines) (pc := 33) 0 dX11_watchLines_33 (k := ?_)
      refine ev_iconst (M := T11_watchLines) (pc := 34) dX11_watchLines_34 (k := ?_)
      refine ev_icmpne (M := T11_watchLines) (pc := 35) 46 dX11_watchLines_35 (kt := fun hc => ?_) (kf := fun hc => ?_)
      · replace H2 := if_ne hc H2
        refine ev_iload_n (M := T11_watchLines) (pc := 46) 0 dX11_watchLines_46 (k := ?_)
        refine ev_iconst (M := T11_watchLines) (pc := 47) dX11_watchLines_47 (k := ?_)
        refine ev_icmpne (M := T11_watchLines) (pc := 48) 56 dX11_watchLines_48 (kt := fun hc => ?_) (kf := fun hc => ?_)
        · replace H2 := if_ne hc H2
          refine ev_lv [2, 3, 1] [(0, .inr (.inr (some (11, 0)))), (1, .inl (l1)), (2, .inr (.inr (some (4, l1))))] (k := ?_)
          exact E11_watchLines_56 k2 hk2 l1 (some l1) q4.2 _ H2
        · replace H2 := if_pe hc H2
          refine ev_aload_n (M := T11_watchLines) (pc := 51) 2 dX11_watchLines_51 (k := ?_)
          refine ev_aload_n (M := T11_watchLines) (pc := 52) 1 dX11_watchLines_52 (k := ?_)
          obtain ⟨h5, hq, H3⟩ := bd_e H2
          clear H2
          refine ev_callV (M := T11_watchLines) (pc := 53) (mc := 0) (ms := 0) (st := []) (C11_flash hq) md_X11_flash im_X11_flash se_X11_flash ml_X11_422 dX11_watchLines_53 _ (by decide) (K := ?_)
          refine ev_lv [2, 3, 1] [(0, .inr (.inr (some (11, 0)))), (1, .inl (l1)), (2, .inr (.inr (some (4, l1))))] (k := ?_)
          exact E11_watchLines_56 k2 hk2 l1 (some l1) h5 _ H3
      · replace H2 := if_pe hc H2
        refine ev_aload_n (M := T11_watchLines) (pc := 38) 2 dX11_watchLines_38 (k := ?_)
        refine ev_aload_n (M := T11_watchLines) (pc := 39) 1 dX11_watchLines_39 (k := ?_)
        obtain ⟨h6, hq, H3⟩ := bd_e H2
        clear H2
        refine ev_callV (M := T11_watchLines) (pc := 40) (mc := 0) (ms := 0) (st := []) (C11_hang hq) md_X11_hang im_X11_hang se_X11_hang ml_X11_419 dX11_watchLines_40 _ (by decide) (K := ?_)
        refine ev_goto (M := T11_watchLines) (pc := 43) 75 dX11_watchLines_43 (k := ?_)
        refine ev_lv [2, 3] [(0, .inr (.inr (some (11, 0)))), (1, .inl (l1))] (k := ?_)
        exact E11_watchLines_75 k2 hk2 l1 h6 _ H3
    · replace H2 := if_pe hc H2
      refine ev_aload_n (M := T11_watchLines) (pc := 25) 2 dX11_watchLines_25 (k := ?_)
      refine ev_aload_n (M := T11_watchLines) (pc := 26) 1 dX11_watchLines_26 (k := ?_)
      obtain ⟨h7, hq, H3⟩ := bd_e H2
      clear H2
      refine ev_callV (M := T11_watchLines) (pc := 27) (mc := 0) (ms := 0) (st := []) (C11_lift hq) md_X11_lift im_X11_lift se_X11_lift ml_X11_415 dX11_watchLines_27 _ (by decide) (K := ?_)
      refine ev_goto (M := T11_watchLines) (pc := 30) 75 dX11_watchLines_30 (k := ?_)
      refine ev_lv [2, 3] [(0, .inr (.inr (some (11, 0)))), (1, .inl (l1))] (k := ?_)
      exact E11_watchLines_75 k2 hk2 l1 h7 _ H3
theorem E11_watchLines_2 (n : Nat) : ∀ (l1 : Int) (h : JM) (res : JM), F11_watchLines_2 n l1 h = some res → Ev j_W1 6 0 0 T11_watchLines 2 [(0, .inr (.inr (some (11, 0)))), (1, .inl (l1))] [] h none res := by
  induction n with
  | zero =>
    intro l1 h res H
    cases H
  | succ n ih =>
    intro l1 h res H
    exact E11_watchLines_2b (F11_watchLines_2 n) ih l1 h res H
set_option maxRecDepth 100000 in
set_option maxHeartbeats 4000000 in
theorem C11_watchLines {h : JM} {res : JM} (H : F11_watchLines h = some res) : Cn j_W1 6 0 0 yX11_watchLines cX11_watchLines 5 none [.inr (.inr (some (11, 0)))] h none res := by
  refine Cn.by (own := RX11) (b := false) [(0, .inr (.inr (some (11, 0))))] rfl (fun z => by cases z) (by decide +kernel) (K := ?_)
  unfold F11_watchLines at H
  refine ev_iconst (M := T11_watchLines) (pc := 0) dX11_watchLines_0 (k := ?_)
  refine ev_istore_n (M := T11_watchLines) (pc := 1) [(1, .inl (0)), (0, .inr (.inr (some (11, 0))))] dX11_watchLines_1 (k := ?_)
  refine ev_lv [1, 0] [(0, .inr (.inr (some (11, 0)))), (1, .inl (0))] (k := ?_)
  exact E11_watchLines_2 j_fu 0 h _ H
